theorem ct_rRunIt (g : zm_G) (gi : zm_I) (gl : zm_J) (r : Nat) (C : zm_I) (cl : zm_J) {q W Pn E K : Nat} (hq : q = 27 ∨ q = 76) (hR : zRs q W Pn E K C) (hS : zSR q W Pn E K C gi) (hPl : ∀ n w e, n < 4 → w < W → e < E → C (q + 8) (n * 3 + w) ≤ 0 → ¬ (C (q + 1) e = nI n ∧ C (q + 2) e = nI w)) (hDue : ∀ p, p < Pn → zx (C (23 + p) 5) 5) (sh : Int32)  : zC_v g yX11_runIt mX11_runIt 6 [.ref 87, .int sh, .int (nI E)] zSH gi gl (zRT r) (fun gi' gl' gr' => zFin W Pn E (fGo q sh W Pn E K (C, cl)).1 gi' ∧ (∀ p, p < Pn → (fGo q sh W Pn E K (C, cl)).1 71 p = -1 ∨ zx ((fGo q sh W Pn E K (C, cl)).1 71 p) 4) ∧ zXg gi gi' ∧ (∀ q, q ≠ 121 → gl' q = gl q) ∧ gr' = zRT r) := by
  have hG : fGo q sh W Pn E K (C, cl) = (zit fFineS (zit fFuelS (zit2 (fNiS q sh W Pn E K) (fBegin C W Pn, cl) 4).1 W) Pn, (zit2 (fNiS q sh W Pn E K) (fBegin C W Pn, cl) 4).2) := rfl
  rw [hG]
  clear hG
  obtain ⟨r1, hW3, r3, hP4, r5, hE27, r7, r8, r9, r10, r11, r12, r13⟩ := id hR
  have hB := fBegin_ag C W Pn
  have hRB := zRs_ag hq hB hR
  have hdB := fBegin_rd hR
  have hni := fun n => zit2_ni (sh := sh) (P := (fBegin C W Pn, cl)) hq hRB hdB n
  have hst : ∀ X, zXg gi X → X 87 12 = nI W ∧ X 87 15 = nI Pn := fun X hX => ⟨by rw [hX.2 12 (by omega)]; exact hS.1, by rw [hX.2 15 (by omega)]; exact hS.2.1⟩
  refine zC_v_of [some (.ref 87), some (.int sh), some (.int (nI E)), none, none, none] (by decide) rfl rfl (Nat.le_of_ble_eq_true rfl) (fun x => ?_)
  have hagN := hB.tr (hni 4).1
  have hFi : ∀ i a, a ≠ 66 → (zit fFineS (zit fFuelS (zit2 (fNiS q sh W Pn E K) (fBegin C W Pn, cl) 4).1 W) i) a = (zit2 (fNiS q sh W Pn E K) (fBegin C W Pn, cl) 4).1 a := fun i a ha => by rw [zit_nq (fFineS_nq ha), zit_nq (fFuelS_nq ha)]
  have hFu : ∀ i a, a ≠ 66 → zit fFuelS (zit2 (fNiS q sh W Pn E K) (fBegin C W Pn, cl) 4).1 i a = (zit2 (fNiS q sh W Pn E K) (fBegin C W Pn, cl) 4).1 a := fun i a ha => zit_nq (fFuelS_nq ha) _ i
  have fin : ∀ (m p : Nat) (X : zm_I) (Y : zm_J) (l4 : Option Value) (l5 : Option Value), p + m = Pn → (zKp Pn (zit2 (fNiS q sh W Pn E K) (fBegin C W Pn, cl) 4).1) → (zFin W Pn E (zit fFineS (zit fFuelS (zit2 (fNiS q sh W Pn E K) (fBegin C W Pn, cl) 4).1 W) p) X) → (zXg gi X) → (∀ q, q ≠ 121 → Y q = gl q) → zB_v x g mX11_runIt 6 zSH (fun gi' gl' gr' => zFin W Pn E (zit fFineS (zit fFuelS (zit2 (fNiS q sh W Pn E K) (fBegin C W Pn, cl) 4).1 W) Pn) gi' ∧ (∀ p, p < Pn → (zit fFineS (zit fFuelS (zit2 (fNiS q sh W Pn E K) (fBegin C W Pn, cl) 4).1 W) Pn) 71 p = -1 ∨ zx ((zit fFineS (zit fFuelS (zit2 (fNiS q sh W Pn E K) (fBegin C W Pn, cl) 4).1 W) Pn) 71 p) 4) ∧ zXg gi gi' ∧ (∀ q, q ≠ 121 → gl' q = gl q) ∧ gr' = zRT r) 429 [some (.ref 87), some (.int sh), some (.int (nI E)), some (.int (nI p)), l4, l5] [] X Y (zRT r) := by
    intro m
    induction m with
    | zero =>
      intro p X Y l4 l5 hm hKp hF hX hY
      refine zA_iload_3 dX11_runIt_429 ?_
      refine zA_aload_0 dX11_runIt_430 ?_
      refine zA_getI (v := (nI Pn)) sh_87 fX11_192 dX11_runIt_431 rfl ((hst X hX).2) ?_
      refine zA_icmp_geN 470 dX11_runIt_434 (by decide) (by omega) (by omega) (fun h => ?_) (fun h => ?_)
      · have e9 : p = Pn := by omega
        subst e9
        exact zB_vret rfl dX11_runIt_470 (⟨hF, fun p' hp' => by rw [hFi _ 71 (by decide)]; exact hKp.2 p' hp', hX, hY, rfl⟩)
      · exact absurd h (by omega)
    | succ m ih_fin =>
      intro p X Y l4 l5 hm hKp hF hX hY
      refine zA_iload_3 dX11_runIt_429 ?_
      refine zA_aload_0 dX11_runIt_430 ?_
      refine zA_getI (v := (nI Pn)) sh_87 fX11_192 dX11_runIt_431 rfl ((hst X hX).2) ?_
      refine zA_icmp_geN 470 dX11_runIt_434 (by decide) (by omega) (by omega) (fun h => ?_) (fun h => ?_)
      · exact absurd h (by omega)
      · obtain ⟨y1, y2⟩ := hDue p h
        have hSX := zSR_ag hP4 hq (zAg.rf C) hX hS
        have c5 : (zit fFineS (zit fFuelS (zit2 (fNiS q sh W Pn E K) (fBegin C W Pn, cl) 4).1 W) p) (23 + p) = C (23 + p) := (hFi p (23 + p) (by omega)).trans (hagN (23 + p) (by omega))
        have x5 : X 97 (7 * p + 5) = nI (zi (C (23 + p) 5)) := (hSX.2.2.2.2.2.2.1 p 5 h (by decide)).trans y1
        have x6 : X 97 (7 * p + 6) = (zit fFineS (zit fFuelS (zit2 (fNiS q sh W Pn E K) (fBegin C W Pn, cl) 4).1 W) p) (23 + p) 6 := by rw [c5]; exact hSX.2.2.2.2.2.2.1 p 6 h (by decide)
        have x71 := (hF.2.2.2 p h).2.2
        have hbk : (zit fFineS (zit fFuelS (zit2 (fNiS q sh W Pn E K) (fBegin C W Pn, cl) 4).1 W) p) 71 p = -1 ∨ zx ((zit fFineS (zit fFuelS (zit2 (fNiS q sh W Pn E K) (fBegin C W Pn, cl) 4).1 W) p) 71 p) 4 := by rw [hFi p 71 (by decide)]; exact hKp.2 p h
        have hnx : zit fFineS (zit fFuelS (zit2 (fNiS q sh W Pn E K) (fBegin C W Pn, cl) 4).1 W) (p + 1) = zs (zit fFineS (zit fFuelS (zit2 (fNiS q sh W Pn E K) (fBegin C W Pn, cl) 4).1 W) p) 66 1 ((zit fFineS (zit fFuelS (zit2 (fNiS q sh W Pn E K) (fBegin C W Pn, cl) 4).1 W) p) 66 1 - fLate (zit fFineS (zit fFuelS (zit2 (fNiS q sh W Pn E K) (fBegin C W Pn, cl) 4).1 W) p) p * (zit fFineS (zit fFuelS (zit2 (fNiS q sh W Pn E K) (fBegin C W Pn, cl) 4).1 W) p) (23 + p) 6) := rfl
        have ih2 := fun (X : zm_I) (l4 l5 : Option Value) => ih_fin (p + 1) X Y l4 l5 (by omega) hKp
        rw [hnx] at ih2
        clear hnx
        have x78 := hF.2.1.2.1
        refine zA_aload_0 dX11_runIt_437 ?_
        refine zA_dup dX11_runIt_438 rfl ?_
        refine zA_getI (v := ((zit fFineS (zit fFuelS (zit2 (fNiS q sh W Pn E K) (fBegin C W Pn, cl) 4).1 W) p) 66 1)) sh_87 fX11_398 dX11_runIt_439 rfl x78 ?_
        refine zA_aload_0 dX11_runIt_442 ?_
        refine zA_iload_3 dX11_runIt_443 ?_
        refine zA_cVi (ct_rLate g X Y r (zit fFineS (zit fFuelS (zit2 (fNiS q sh W Pn E K) (fBegin C W Pn, cl) 4).1 W) p) h hP4 y2 x5 (by rw [c5]; exact y1) x71 hbk) calX11_lateOf stX11_lateOf lX11_410 dX11_runIt_444 (by decide) (by simp [Value.category]) rfl (Nat.le_refl _) (Nat.le_refl _) sh_87 rfl (fun zz gi' gl' gr' ⟨hz, e1, e2, e3⟩ => ?_)
        rw [hz, e1, e2, e3]
        clear hz e1 e2 e3
        refine zA_aload_0 dX11_runIt_447 ?_
        refine zA_getR sh_87 fX11_37 dX11_runIt_448 rfl (rt_87_16 _) ?_
        refine zA_bipush (nI 7) dX11_runIt_451 bc_7 ?_
        refine zA_iload_3 dX11_runIt_453 ?_
        refine zA_imulN dX11_runIt_454 ?_
        refine zA_bipush (nI 6) dX11_runIt_455 bc_6 ?_
        refine zA_iaddN dX11_runIt_457 ?_
        refine zA_iald (v := ((zit fFineS (zit fFuelS (zit2 (fNiS q sh W Pn E K) (fBegin C W Pn, cl) 4).1 W) p) (23 + p) 6)) ((7 * p) + 6) sh_97 dX11_runIt_458 rfl (by omega) (by decide) x6 ?_
        refine zA_imul dX11_runIt_459 ?_
        refine zA_isub dX11_runIt_460 ?_
        refine zS_putI sh_87 fX11_398 dX11_runIt_461 rfl rfl ?_
        refine zA_iinc_3 (v := nI (p + 1)) dX11_runIt_464 (zn_inc _) rfl ?_
        refine zA_goto 429 dX11_runIt_467 (by decide) ?_
        exact ih2 _ _ _ (zFin_fine hF) (zXg_zs hX (by omega)) hY
  have fuel : ∀ (m v : Nat) (X : zm_I) (Y : zm_J) (l4 : Option Value) (l5 : Option Value), v + m = W → (zKp Pn (zit2 (fNiS q sh W Pn E K) (fBegin C W Pn, cl) 4).1) → (zFin W Pn E (zs (zit fFuelS (zit2 (fNiS q sh W Pn E K) (fBegin C W Pn, cl) 4).1 v) 66 1 ((zit2 (fNiS q sh W Pn E K) (fBegin C W Pn, cl) 4).1 66 1)) X) → (∀ v', v' < W → X 123 v' = (zit2 (fNiS q sh W Pn E K) (fBegin C W Pn, cl) 4).1 69 v') → (zXg gi X) → (∀ q, q ≠ 121 → Y q = gl q) → zB_v x g mX11_runIt 6 zSH (fun gi' gl' gr' => zFin W Pn E (zit fFineS (zit fFuelS (zit2 (fNiS q sh W Pn E K) (fBegin C W Pn, cl) 4).1 W) Pn) gi' ∧ (∀ p, p < Pn → (zit fFineS (zit fFuelS (zit2 (fNiS q sh W Pn E K) (fBegin C W Pn, cl) 4).1 W) Pn) 71 p = -1 ∨ zx ((zit fFineS (zit fFuelS (zit2 (fNiS q sh W Pn E K) (fBegin C W Pn, cl) 4).1 W) Pn) 71 p) 4) ∧ zXg gi gi' ∧ (∀ q, q ≠ 121 → gl' q = gl q) ∧ gr' = zRT r) 375 [some (.ref 87), some (.int sh), some (.int (nI E)), some (.int (nI v)), l4, l5] [] X Y (zRT r) := by
    intro m
    induction m with
    | zero =>
      intro v X Y l4 l5 hm hKp hF hMi hX hY
      refine zA_iload_3 dX11_runIt_375 ?_
      refine zA_aload_0 dX11_runIt_376 ?_
      refine zA_getI (v := (nI W)) sh_87 fX11_186 dX11_runIt_377 rfl ((hst X hX).1) ?_
      refine zA_icmp_geN 414 dX11_runIt_380 (by decide) (by omega) (by omega) (fun h => ?_) (fun h => ?_)
      · have e9 : v = W := by omega
        subst e9
        refine zA_aload_0 dX11_runIt_414 ?_
        refine zA_dup dX11_runIt_415 rfl ?_
        refine zA_getI (v := (X 87 78)) sh_87 fX11_398 dX11_runIt_416 rfl rfl ?_
        refine zA_aload_0 dX11_runIt_419 ?_
        refine zA_getI (v := (X 87 81)) sh_87 fX11_401 dX11_runIt_420 rfl rfl ?_
        refine zA_isub dX11_runIt_423 ?_
        refine zS_putI sh_87 fX11_398 dX11_runIt_424 rfl rfl ?_
        refine zA_iconst (nI 0) dX11_runIt_427 ic_0 ?_
        refine zA_istore_3 dX11_runIt_428 rfl ?_
        refine fin Pn 0 _ Y _ _ (by omega) hKp ?_ (zXg_zs hX (by omega)) hY
        refine zFin_pay hF ?_
        have x78 := hF.2.1.2.1
        have x81 := hF.2.1.2.2.2.1
        rw [zs_eq] at x78
        rw [zs_nj (by decide)] at x81
        rw [x78, x81]
        exact (zit_fuel hKp.1 v).symm
      · exact absurd h (by omega)
    | succ m ih_fuel =>
      intro v X Y l4 l5 hm hKp hF hMi hX hY
      refine zA_iload_3 dX11_runIt_375 ?_
      refine zA_aload_0 dX11_runIt_376 ?_
      refine zA_getI (v := (nI W)) sh_87 fX11_186 dX11_runIt_377 rfl ((hst X hX).1) ?_
      refine zA_icmp_geN 414 dX11_runIt_380 (by decide) (by omega) (by omega) (fun h => ?_) (fun h => ?_)
      · exact absurd h (by omega)
      · have hSX := zSR_ag hP4 hq (zAg.rf C) hX hS
        have x81 := hF.2.1.2.2.2.1
        rw [zs_nj (by decide)] at x81
        have x107 : X 107 1 = (zit fFuelS (zit2 (fNiS q sh W Pn E K) (fBegin C W Pn, cl) 4).1 v) 36 6 := by rw [hFu v 36 (by decide), hagN 36 (by omega)]; exact hSX.2.2.2.2.2.2.2.2.2.2.1.2
        have x123 : X 123 v = (zit fFuelS (zit2 (fNiS q sh W Pn E K) (fBegin C W Pn, cl) 4).1 v) 69 v := by rw [hFu v 69 (by decide)]; exact hMi v h
        refine zA_aload_0 dX11_runIt_383 ?_
        refine zA_dup dX11_runIt_384 rfl ?_
        refine zA_getI (v := ((zit fFuelS (zit2 (fNiS q sh W Pn E K) (fBegin C W Pn, cl) 4).1 v) 66 3)) sh_87 fX11_401 dX11_runIt_385 rfl x81 ?_
        refine zA_aload_0 dX11_runIt_388 ?_
        refine zA_getR sh_87 fX11_121 dX11_runIt_389 rfl (rt_87_68 _) ?_
        refine zA_iload_3 dX11_runIt_392 ?_
        refine zA_iald (v := ((zit fFuelS (zit2 (fNiS q sh W Pn E K) (fBegin C W Pn, cl) 4).1 v) 69 v)) v sh_123 dX11_runIt_393 rfl (by omega) (by decide) x123 ?_
        refine zA_aload_0 dX11_runIt_394 ?_
        refine zA_getR sh_87 fX11_72 dX11_runIt_395 rfl (rt_87_36 _) ?_
        refine zA_iconst (nI 1) dX11_runIt_398 ic_1 ?_
        refine zA_iald (v := ((zit fFuelS (zit2 (fNiS q sh W Pn E K) (fBegin C W Pn, cl) 4).1 v) 36 6)) 1 sh_107 dX11_runIt_399 rfl (by decide) (by decide) x107 ?_
        refine zA_imul dX11_runIt_400 ?_
        refine zA_bipush (nI 10) dX11_runIt_401 bc_10 ?_
        refine zA_idiv dX11_runIt_403 (by decide) ?_
        refine zA_iadd dX11_runIt_404 ?_
        refine zS_putI sh_87 fX11_401 dX11_runIt_405 rfl rfl ?_
        refine zA_iinc_3 (v := nI (v + 1)) dX11_runIt_408 (zn_inc _) rfl ?_
        refine zA_goto 375 dX11_runIt_411 (by decide) ?_
        exact ih_fuel (v + 1) _ Y _ _ (by omega) hKp (zFin_fuel hF) (fun v' hv' => hMi v' hv') (zXg_zs hX (by omega)) hY
  have nig : ∀ (m n : Nat) (X : zm_I) (Y : zm_J) (l4 : Option Value) (l5 : Option Value), n + m = 4 → (zVN W Pn E n sh gi (fun e => zi (C (q + 1) e) < n) (zit2 (fNiS q sh W Pn E K) (fBegin C W Pn, cl) n).1 X) → (∀ q, q ≠ 121 → Y q = gl q) → zB_v x g mX11_runIt 6 zSH (fun gi' gl' gr' => zFin W Pn E (zit fFineS (zit fFuelS (zit2 (fNiS q sh W Pn E K) (fBegin C W Pn, cl) 4).1 W) Pn) gi' ∧ (∀ p, p < Pn → (zit fFineS (zit fFuelS (zit2 (fNiS q sh W Pn E K) (fBegin C W Pn, cl) 4).1 W) Pn) 71 p = -1 ∨ zx ((zit fFineS (zit fFuelS (zit2 (fNiS q sh W Pn E K) (fBegin C W Pn, cl) 4).1 W) Pn) 71 p) 4) ∧ zXg gi gi' ∧ (∀ q, q ≠ 121 → gl' q = gl q) ∧ gr' = zRT r) 135 [some (.ref 87), some (.int sh), some (.int (nI E)), some (.int (nI n)), l4, l5] [] X Y (zRT r) := by
    intro m
    induction m with
    | zero =>
      intro n X Y l4 l5 hm hV hY
      refine zA_iload_3 dX11_runIt_135 ?_
      refine zA_iconst (nI 4) dX11_runIt_136 ic_4 ?_
      refine zA_icmp_geN 373 dX11_runIt_137 (by decide) (by omega) (by omega) (fun h => ?_) (fun h => ?_)
      · have e9 : n = 4 := by omega
        subst e9
        refine zA_iconst (nI 0) dX11_runIt_373 ic_0 ?_
        refine zA_istore_3 dX11_runIt_374 rfl ?_
        exact fuel W 0 X Y _ _ (by omega) hV.2.2.2.2.2 (zFin_of (fun e he => (r7 e he).1.2) hV) (fun v' hv' => (hV.1.1 v' hv').2) hV.2.1 hY
      · exact absurd h (by omega)
    | succ m ih_nig =>
      intro n X Y l4 l5 hm hV hY
      refine zA_iload_3 dX11_runIt_135 ?_
      refine zA_iconst (nI 4) dX11_runIt_136 ic_4 ?_
      refine zA_icmp_geN 373 dX11_runIt_137 (by decide) (by omega) (by omega) (fun h => ?_) (fun h => ?_)
      · exact absurd h (by omega)
      · obtain ⟨nA, nd⟩ := hni n
        have nR := zRs_ag hq nA hRB
        have a0 := fNi0_ag sh n (zit2 (fNiS q sh W Pn E K) (fBegin C W Pn, cl) n).1
        have R0 := zRs_ag hq a0 nR
        have d0 := fNi0_rd (sh := sh) (n := n) nd
        obtain ⟨aH, dH⟩ := zit_han (n := n) hq R0 d0 K (Nat.le_refl _)
        have RH := zRs_ag hq aH R0
        have NH : zNi n (zsh sh n) (zit (fHanS q n) (fNi0 sh n (zit2 (fNiS q sh W Pn E K) (fBegin C W Pn, cl) n).1) K) := by unfold zNi; rw [zit_nq (fHanS_nq (by decide))]; exact ⟨rfl, rfl⟩
        have hCH : zAg C (zit (fHanS q n) (fNi0 sh n (zit2 (fNiS q sh W Pn E K) (fBegin C W Pn, cl) n).1) K) := ((hB.tr nA).tr a0).tr aH
        have hVan := fun w => zit2_van (n := n) (s := zsh sh n) (P := ((zit (fHanS q n) (fNi0 sh n (zit2 (fNiS q sh W Pn E K) (fBegin C W Pn, cl) n).1) K), (zit2 (fNiS q sh W Pn E K) (fBegin C W Pn, cl) n).2)) hq RH dH NH w
        have hsl := zsh_lt sh n
        have hni1 : (zit2 (fNiS q sh W Pn E K) (fBegin C W Pn, cl) (n + 1)) = (zit (fEnd2S n) (zit (fEnd1S n) (zit2 (fVanS q E n (zsh sh n)) ((zit (fHanS q n) (fNi0 sh n (zit2 (fNiS q sh W Pn E K) (fBegin C W Pn, cl) n).1) K), (zit2 (fNiS q sh W Pn E K) (fBegin C W Pn, cl) n).2) W).1 W) Pn, (zit2 (fVanS q E n (zsh sh n)) ((zit (fHanS q n) (fNi0 sh n (zit2 (fNiS q sh W Pn E K) (fBegin C W Pn, cl) n).1) K), (zit2 (fNiS q sh W Pn E K) (fBegin C W Pn, cl) n).2) W).2) := rfl
        have ihn := fun (X : zm_I) (Y : zm_J) (l4 l5 : Option Value) => ih_nig (n + 1) X Y l4 l5 (by omega)
        rw [hni1] at ihn
        clear hni1
        have bak : ∀ (m p : Nat) (X : zm_I) (Y : zm_J) (l5 : Option Value), p + m = Pn → (zVN W Pn E (n + 1) sh gi (fun e => zi (C (q + 1) e) < n + 1) (zit (fEnd2S n) (zit (fEnd1S n) (zit2 (fVanS q E n (zsh sh n)) ((zit (fHanS q n) (fNi0 sh n (zit2 (fNiS q sh W Pn E K) (fBegin C W Pn, cl) n).1) K), (zit2 (fNiS q sh W Pn E K) (fBegin C W Pn, cl) n).2) W).1 W) p) X) → (∀ q, q ≠ 121 → Y q = gl q) → zB_v x g mX11_runIt 6 zSH (fun gi' gl' gr' => zFin W Pn E (zit fFineS (zit fFuelS (zit2 (fNiS q sh W Pn E K) (fBegin C W Pn, cl) 4).1 W) Pn) gi' ∧ (∀ p, p < Pn → (zit fFineS (zit fFuelS (zit2 (fNiS q sh W Pn E K) (fBegin C W Pn, cl) 4).1 W) Pn) 71 p = -1 ∨ zx ((zit fFineS (zit fFuelS (zit2 (fNiS q sh W Pn E K) (fBegin C W Pn, cl) 4).1 W) Pn) 71 p) 4) ∧ zXg gi gi' ∧ (∀ q, q ≠ 121 → gl' q = gl q) ∧ gr' = zRT r) 307 [some (.ref 87), some (.int sh), some (.int (nI E)), some (.int (nI n)), some (.int (nI p)), l5] [] X Y (zRT r) := by
          intro m
          induction m with
          | zero =>
            intro p X Y l5 hm hV hY
            refine zA_iload_4 dX11_runIt_307 ?_
            refine zA_aload_0 dX11_runIt_309 ?_
            refine zA_getI (v := (nI Pn)) sh_87 fX11_192 dX11_runIt_310 rfl ((hst X hV.2.1).2) ?_
            refine zA_icmp_geN 367 dX11_runIt_313 (by decide) (by omega) (by omega) (fun h2 => ?_) (fun h2 => ?_)
            · have e9 : p = Pn := by omega
              subst e9
              refine zA_iinc_3 (v := nI (n + 1)) dX11_runIt_367 (zn_inc _) rfl ?_
              refine zA_goto 135 dX11_runIt_370 (by decide) ?_
              exact ihn X Y _ _ hV hY
            · exact absurd h2 (by omega)
          | succ m ih_bak =>
            intro p X Y l5 hm hV hY
            refine zA_iload_4 dX11_runIt_307 ?_
            refine zA_aload_0 dX11_runIt_309 ?_
            refine zA_getI (v := (nI Pn)) sh_87 fX11_192 dX11_runIt_310 rfl ((hst X hV.2.1).2) ?_
            refine zA_icmp_geN 367 dX11_runIt_313 (by decide) (by omega) (by omega) (fun h2 => ?_) (fun h2 => ?_)
            · exact absurd h2 (by omega)
            · have c2 : ∀ a, a ≠ 71 → (zit (fEnd2S n) (zit (fEnd1S n) (zit2 (fVanS q E n (zsh sh n)) ((zit (fHanS q n) (fNi0 sh n (zit2 (fNiS q sh W Pn E K) (fBegin C W Pn, cl) n).1) K), (zit2 (fNiS q sh W Pn E K) (fBegin C W Pn, cl) n).2) W).1 W) p) a = (zit (fEnd1S n) (zit2 (fVanS q E n (zsh sh n)) ((zit (fHanS q n) (fNi0 sh n (zit2 (fNiS q sh W Pn E K) (fBegin C W Pn, cl) n).1) K), (zit2 (fNiS q sh W Pn E K) (fBegin C W Pn, cl) n).2) W).1 W) a := fun a ha => zit_nq (fEnd2S_nq ha) _ p
              have c1 : ∀ a, a ≠ 68 → (zit (fEnd1S n) (zit2 (fVanS q E n (zsh sh n)) ((zit (fHanS q n) (fNi0 sh n (zit2 (fNiS q sh W Pn E K) (fBegin C W Pn, cl) n).1) K), (zit2 (fNiS q sh W Pn E K) (fBegin C W Pn, cl) n).2) W).1 W) a = (zit2 (fVanS q E n (zsh sh n)) ((zit (fHanS q n) (fNi0 sh n (zit2 (fNiS q sh W Pn E K) (fBegin C W Pn, cl) n).1) K), (zit2 (fNiS q sh W Pn E K) (fBegin C W Pn, cl) n).2) W).1 a := fun a ha => zit_nq (fEnd1S_nq ha) _ W
              have hnx : zit (fEnd2S n) (zit (fEnd1S n) (zit2 (fVanS q E n (zsh sh n)) ((zit (fHanS q n) (fNi0 sh n (zit2 (fNiS q sh W Pn E K) (fBegin C W Pn, cl) n).1) K), (zit2 (fNiS q sh W Pn E K) (fBegin C W Pn, cl) n).2) W).1 W) (p + 1) = fEnd2S n (zit (fEnd2S n) (zit (fEnd1S n) (zit2 (fVanS q E n (zsh sh n)) ((zit (fHanS q n) (fNi0 sh n (zit2 (fNiS q sh W Pn E K) (fBegin C W Pn, cl) n).1) K), (zit2 (fNiS q sh W Pn E K) (fBegin C W Pn, cl) n).2) W).1 W) p) p := rfl
              have ih2 := fun (X : zm_I) (l5 : Option Value) => ih_bak (p + 1) X Y l5 (by omega)
              rw [hnx] at ih2
              clear hnx
              have hSX := zSR_ag hP4 hq (zAg.rf C) hV.2.1 hS
              have c70 := (hVan W).2.1.2 p h2
              have c23 : (zit (fEnd2S n) (zit (fEnd1S n) (zit2 (fVanS q E n (zsh sh n)) ((zit (fHanS q n) (fNi0 sh n (zit2 (fNiS q sh W Pn E K) (fBegin C W Pn, cl) n).1) K), (zit2 (fNiS q sh W Pn E K) (fBegin C W Pn, cl) n).2) W).1 W) p) (23 + p) = C (23 + p) := by rw [c2 _ (by omega), c1 _ (by omega), (hVan W).1 _ (by omega)]; exact hCH _ (by omega)
              rw [← c1 70 (by decide), ← c2 70 (by decide)] at c70
              generalize (zit (fEnd2S n) (zit (fEnd1S n) (zit2 (fVanS q E n (zsh sh n)) ((zit (fHanS q n) (fNi0 sh n (zit2 (fNiS q sh W Pn E K) (fBegin C W Pn, cl) n).1) K), (zit2 (fNiS q sh W Pn E K) (fBegin C W Pn, cl) n).2) W).1 W) p) = D at hV ih2 c70 c23
              clear c1 c2
              obtain ⟨u1, u2⟩ := c70
              generalize hza : zi (D 70 p) = a at *
              obtain ⟨d1, d2, d3⟩ := hV.1.2.1 p h2
              have d4 := (hV.1.1 a u2).1
              have d5 : X 97 (7 * p + 4) = D (23 + p) 4 := by rw [c23]; exact hSX.2.2.2.2.2.2.1 p 4 h2 (by decide)
              have hr := hV.2.2.2.2.2.2 p h2
              have hr2 : (0 ≤ D 71 p ∧ ¬ D 71 p = -1) ∨ (¬ 0 ≤ D 71 p ∧ D 71 p = -1) := by
                rcases hr with q | q
                · exact Or.inr ⟨by rw [q]; decide, q⟩
                · refine Or.inl ⟨by rw [q.1]; exact nI_pos' (by have := q.2; omega), fun z => ?_⟩
                  have q1 := q.1
                  rw [z] at q1
                  exact absurd q1 (by decide)
              refine zA_aload_0 dX11_runIt_316 ?_
              refine zA_getR sh_87 fX11_148 dX11_runIt_317 rfl (rt_87_77 _) ?_
              refine zA_iload_4 dX11_runIt_320 ?_
              refine zA_iald (v := (D 71 p)) p sh_132 dX11_runIt_322 rfl (by omega) (by decide) d3 ?_
              refine zA_if_ge 361 dX11_runIt_323 (by decide) (fun h3 => ?_) (fun h3 => ?_)
              · refine zA_iinc_4 (v := nI (p + 1)) dX11_runIt_361 (zn_inc _) rfl ?_
                refine zA_goto 307 dX11_runIt_364 (by decide) ?_
                have e9 : fEnd2S n D p = D := by
                  unfold fEnd2S
                  rw [if_neg (by rcases hr2 with z | z; exact z.2; exact absurd h3 z.1)]
                rw [e9] at ih2
                exact ih2 _ _ hV hY
              · have h4 : D 71 p = -1 := by rcases hr2 with z | z; exact absurd z.1 h3; exact z.2
                refine zA_aload_0 dX11_runIt_326 ?_
                refine zA_getR sh_87 fX11_118 dX11_runIt_327 rfl (rt_87_67 _) ?_
                refine zA_aload_0 dX11_runIt_330 ?_
                refine zA_getR sh_87 fX11_133 dX11_runIt_331 rfl (rt_87_72 _) ?_
                refine zA_iload_4 dX11_runIt_334 ?_
                refine zA_iald (v := (nI a)) p sh_127 dX11_runIt_336 rfl (by omega) (by decide) (d1.trans u1) ?_
                refine zA_iald (v := (D 67 a)) a sh_122 dX11_runIt_337 rfl (by omega) (by decide) d4 ?_
                refine zA_aload_0 dX11_runIt_338 ?_
                refine zA_getR sh_87 fX11_37 dX11_runIt_339 rfl (rt_87_16 _) ?_
                refine zA_bipush (nI 7) dX11_runIt_342 bc_7 ?_
                refine zA_iload_4 dX11_runIt_344 ?_
                refine zA_imulN dX11_runIt_346 ?_
                refine zA_iconst (nI 4) dX11_runIt_347 ic_4 ?_
                refine zA_iaddN dX11_runIt_348 ?_
                refine zA_iald (v := (D (23 + p) 4)) ((7 * p) + 4) sh_97 dX11_runIt_349 rfl (by omega) (by decide) d5 ?_
                refine zA_icmp_ne 361 dX11_runIt_350 (by decide) (fun h5 => ?_) (fun h5 => ?_)
                · refine zA_iinc_4 (v := nI (p + 1)) dX11_runIt_361 (zn_inc _) rfl ?_
                  refine zA_goto 307 dX11_runIt_364 (by decide) ?_
                  have e9 : fEnd2S n D p = D := by
                    unfold fEnd2S
                    rw [if_pos h4, hza, if_neg h5]
                  rw [e9] at ih2
                  exact ih2 _ _ hV hY
                · refine zA_aload_0 dX11_runIt_353 ?_
                  refine zA_getR sh_87 fX11_148 dX11_runIt_354 rfl (rt_87_77 _) ?_
                  refine zA_iload_4 dX11_runIt_357 ?_
                  refine zA_iload_3 dX11_runIt_359 ?_
                  refine zS_iast p sh_132 dX11_runIt_360 rfl (by omega) (by decide) ?_
                  refine zA_iinc_4 (v := nI (p + 1)) dX11_runIt_361 (zn_inc _) rfl ?_
                  refine zA_goto 307 dX11_runIt_364 (by decide) ?_
                  have e9 : fEnd2S n D p = zs D 71 p (nI n) := by
                    unfold fEnd2S
                    rw [if_pos h4, hza, if_pos h5]
                  rw [e9] at ih2
                  exact ih2 _ _ (zEnd2 h hV) hY
        have whe : ∀ (m v : Nat) (X : zm_I) (Y : zm_J) (l5 : Option Value), v + m = W → (zVN W Pn E n sh gi (fun e => zi (C (q + 1) e) < n + 1) (zit (fEnd1S n) (zit2 (fVanS q E n (zsh sh n)) ((zit (fHanS q n) (fNi0 sh n (zit2 (fNiS q sh W Pn E K) (fBegin C W Pn, cl) n).1) K), (zit2 (fNiS q sh W Pn E K) (fBegin C W Pn, cl) n).2) W).1 v) X) → (∀ v', v' < v → X 131 (4 * v' + n) = (zit (fEnd1S n) (zit2 (fVanS q E n (zsh sh n)) ((zit (fHanS q n) (fNi0 sh n (zit2 (fNiS q sh W Pn E K) (fBegin C W Pn, cl) n).1) K), (zit2 (fNiS q sh W Pn E K) (fBegin C W Pn, cl) n).2) W).1 v) 68 (v' * 4 + n)) → (∀ q, q ≠ 121 → Y q = gl q) → zB_v x g mX11_runIt 6 zSH (fun gi' gl' gr' => zFin W Pn E (zit fFineS (zit fFuelS (zit2 (fNiS q sh W Pn E K) (fBegin C W Pn, cl) 4).1 W) Pn) gi' ∧ (∀ p, p < Pn → (zit fFineS (zit fFuelS (zit2 (fNiS q sh W Pn E K) (fBegin C W Pn, cl) 4).1 W) Pn) 71 p = -1 ∨ zx ((zit fFineS (zit fFuelS (zit2 (fNiS q sh W Pn E K) (fBegin C W Pn, cl) 4).1 W) Pn) 71 p) 4) ∧ zXg gi gi' ∧ (∀ q, q ≠ 121 → gl' q = gl q) ∧ gr' = zRT r) 271 [some (.ref 87), some (.int sh), some (.int (nI E)), some (.int (nI n)), some (.int (nI v)), l5] [] X Y (zRT r) := by
          intro m
          induction m with
          | zero =>
            intro v X Y l5 hm hV hWh hY
            refine zA_iload_4 dX11_runIt_271 ?_
            refine zA_aload_0 dX11_runIt_273 ?_
            refine zA_getI (v := (nI W)) sh_87 fX11_186 dX11_runIt_274 rfl ((hst X hV.2.1).1) ?_
            refine zA_icmp_geN 304 dX11_runIt_277 (by decide) (by omega) (by omega) (fun h2 => ?_) (fun h2 => ?_)
            · have e9 : v = W := by omega
              subst e9
              refine zA_iconst (nI 0) dX11_runIt_304 ic_0 ?_
              refine zA_istore_4 dX11_runIt_305 rfl ?_
              refine bak Pn 0 X Y _ (by omega) ⟨hV.1, hV.2.1, hV.2.2.1, hV.2.2.2.1, fun v' n' hv' hn' => ?_, hV.2.2.2.2.2⟩ hY
              by_cases c : n' = n
              · subst c
                exact hWh v' hv'
              · exact hV.2.2.2.2.1 v' n' hv' (by omega)
            · exact absurd h2 (by omega)
          | succ m ih_whe =>
            intro v X Y l5 hm hV hWh hY
            refine zA_iload_4 dX11_runIt_271 ?_
            refine zA_aload_0 dX11_runIt_273 ?_
            refine zA_getI (v := (nI W)) sh_87 fX11_186 dX11_runIt_274 rfl ((hst X hV.2.1).1) ?_
            refine zA_icmp_geN 304 dX11_runIt_277 (by decide) (by omega) (by omega) (fun h2 => ?_) (fun h2 => ?_)
            · exact absurd h2 (by omega)
            · refine zA_aload_0 dX11_runIt_280 ?_
              refine zA_getR sh_87 fX11_145 dX11_runIt_281 rfl (rt_87_76 _) ?_
              refine zA_iconst (nI 4) dX11_runIt_284 ic_4 ?_
              refine zA_iload_4 dX11_runIt_285 ?_
              refine zA_imulN dX11_runIt_287 ?_
              refine zA_iload_3 dX11_runIt_288 ?_
              refine zA_iaddN dX11_runIt_289 ?_
              refine zA_aload_0 dX11_runIt_290 ?_
              refine zA_getR sh_87 fX11_118 dX11_runIt_291 rfl (rt_87_67 _) ?_
              refine zA_iload_4 dX11_runIt_294 ?_
              refine zA_iald (v := (X 122 v)) v sh_122 dX11_runIt_296 rfl (by omega) (by decide) rfl ?_
              refine zS_iast ((4 * v) + n) sh_131 dX11_runIt_297 rfl (by omega) (by decide) ?_
              refine zA_iinc_4 (v := nI (v + 1)) dX11_runIt_298 (zn_inc _) rfl ?_
              refine zA_goto 271 dX11_runIt_301 (by decide) ?_
              obtain ⟨q1, q2⟩ := zEnd1 h h2 hV hWh
              exact ih_whe (v + 1) _ Y _ (by omega) q1 q2 hY
        have van : ∀ (m w : Nat) (X : zm_I) (Y : zm_J) (l5 : Option Value), w + m = W → (zVS W Pn E n sh gi (fun e => zi (C (q + 1) e) < n ∨ (zi (C (q + 1) e) = n ∧ zi (C (q + 2) e) < w)) (zit2 (fVanS q E n (zsh sh n)) ((zit (fHanS q n) (fNi0 sh n (zit2 (fNiS q sh W Pn E K) (fBegin C W Pn, cl) n).1) K), (zit2 (fNiS q sh W Pn E K) (fBegin C W Pn, cl) n).2) w).1 X) → (∀ w', w ≤ w' → w' < 3 → X 124 w' = nI 0 ∧ X 125 w' = nI 0) → (∀ q, q ≠ 121 → Y q = gl q) → zB_v x g mX11_runIt 6 zSH (fun gi' gl' gr' => zFin W Pn E (zit fFineS (zit fFuelS (zit2 (fNiS q sh W Pn E K) (fBegin C W Pn, cl) 4).1 W) Pn) gi' ∧ (∀ p, p < Pn → (zit fFineS (zit fFuelS (zit2 (fNiS q sh W Pn E K) (fBegin C W Pn, cl) 4).1 W) Pn) 71 p = -1 ∨ zx ((zit fFineS (zit fFuelS (zit2 (fNiS q sh W Pn E K) (fBegin C W Pn, cl) 4).1 W) Pn) 71 p) 4) ∧ zXg gi gi' ∧ (∀ q, q ≠ 121 → gl' q = gl q) ∧ gr' = zRT r) 203 [some (.ref 87), some (.int sh), some (.int (nI E)), some (.int (nI n)), some (.int (nI w)), l5] [] X Y (zRT r) := by
          intro m
          induction m with
          | zero =>
            intro w X Y l5 hm hV hZr hY
            refine zA_iload_4 dX11_runIt_203 ?_
            refine zA_aload_0 dX11_runIt_205 ?_
            refine zA_getI (v := (nI W)) sh_87 fX11_186 dX11_runIt_206 rfl ((hst X hV.2.2.1).1) ?_
            refine zA_icmp_geN 268 dX11_runIt_209 (by decide) (by omega) (by omega) (fun h2 => ?_) (fun h2 => ?_)
            · have e9 : w = W := by omega
              subst e9
              refine zA_iconst (nI 0) dX11_runIt_268 ic_0 ?_
              refine zA_istore_4 dX11_runIt_269 rfl ?_
              refine whe w 0 X Y _ (by omega) (zVS_vn (zVS_dn (fun e he hd => ?_) hV)) (fun v' hv' => absurd hv' (Nat.not_lt_zero _)) hY
              have := (r7 e he).2.1.2
              rcases (show zi (C (q + 1) e) < n ∨ zi (C (q + 1) e) = n by omega) with z | z
              · exact Or.inl z
              · exact Or.inr ⟨z, this⟩
            · exact absurd h2 (by omega)
          | succ m ih_van =>
            intro w X Y l5 hm hV hZr hY
            refine zA_iload_4 dX11_runIt_203 ?_
            refine zA_aload_0 dX11_runIt_205 ?_
            refine zA_getI (v := (nI W)) sh_87 fX11_186 dX11_runIt_206 rfl ((hst X hV.2.2.1).1) ?_
            refine zA_icmp_geN 268 dX11_runIt_209 (by decide) (by omega) (by omega) (fun h2 => ?_) (fun h2 => ?_)
            · exact absurd h2 (by omega)
            · obtain ⟨vA, vd, vN⟩ := hVan w
              have hCV : zAg C (zit2 (fVanS q E n (zsh sh n)) ((zit (fHanS q n) (fNi0 sh n (zit2 (fNiS q sh W Pn E K) (fBegin C W Pn, cl) n).1) K), (zit2 (fNiS q sh W Pn E K) (fBegin C W Pn, cl) n).2) w).1 := hCH.tr vA
              have aT : zAg (zit2 (fVanS q E n (zsh sh n)) ((zit (fHanS q n) (fNi0 sh n (zit2 (fNiS q sh W Pn E K) (fBegin C W Pn, cl) n).1) K), (zit2 (fNiS q sh W Pn E K) (fBegin C W Pn, cl) n).2) w).1 (zs (zs (zit2 (fVanS q E n (zsh sh n)) ((zit (fHanS q n) (fNi0 sh n (zit2 (fNiS q sh W Pn E K) (fBegin C W Pn, cl) n).1) K), (zit2 (fNiS q sh W Pn E K) (fBegin C W Pn, cl) n).2) w).1 57 18 (nI 0)) 57 19 (nI 0), (zit2 (fVanS q E n (zsh sh n)) ((zit (fHanS q n) (fNi0 sh n (zit2 (fNiS q sh W Pn E K) (fBegin C W Pn, cl) n).1) K), (zit2 (fNiS q sh W Pn E K) (fBegin C W Pn, cl) n).2) w).2).1 := ((zAg.rf (zit2 (fVanS q E n (zsh sh n)) ((zit (fHanS q n) (fNi0 sh n (zit2 (fNiS q sh W Pn E K) (fBegin C W Pn, cl) n).1) K), (zit2 (fNiS q sh W Pn E K) (fBegin C W Pn, cl) n).2) w).1).zs (by omega)).zs (by omega)
              have RT0 : zRs q W Pn E K (zs (zs (zit2 (fVanS q E n (zsh sh n)) ((zit (fHanS q n) (fNi0 sh n (zit2 (fNiS q sh W Pn E K) (fBegin C W Pn, cl) n).1) K), (zit2 (fNiS q sh W Pn E K) (fBegin C W Pn, cl) n).2) w).1 57 18 (nI 0)) 57 19 (nI 0), (zit2 (fVanS q E n (zsh sh n)) ((zit (fHanS q n) (fNi0 sh n (zit2 (fNiS q sh W Pn E K) (fBegin C W Pn, cl) n).1) K), (zit2 (fNiS q sh W Pn E K) (fBegin C W Pn, cl) n).2) w).2).1 := zRs_ag hq (hCV.tr aT) hR
              have dT0 : zRd W Pn (zs (zs (zit2 (fVanS q E n (zsh sh n)) ((zit (fHanS q n) (fNi0 sh n (zit2 (fNiS q sh W Pn E K) (fBegin C W Pn, cl) n).1) K), (zit2 (fNiS q sh W Pn E K) (fBegin C W Pn, cl) n).2) w).1 57 18 (nI 0)) 57 19 (nI 0), (zit2 (fVanS q E n (zsh sh n)) ((zit (fHanS q n) (fNi0 sh n (zit2 (fNiS q sh W Pn E K) (fBegin C W Pn, cl) n).1) K), (zit2 (fNiS q sh W Pn E K) (fBegin C W Pn, cl) n).2) w).2).1 := by unfold zRd; dsimp only; rw [zs_nq (by decide), zs_nq (by decide), zs_nq (by decide), zs_nq (by decide)]; exact vd
              have NT0 : zNi n (zsh sh n) (zs (zs (zit2 (fVanS q E n (zsh sh n)) ((zit (fHanS q n) (fNi0 sh n (zit2 (fNiS q sh W Pn E K) (fBegin C W Pn, cl) n).1) K), (zit2 (fNiS q sh W Pn E K) (fBegin C W Pn, cl) n).2) w).1 57 18 (nI 0)) 57 19 (nI 0), (zit2 (fVanS q E n (zsh sh n)) ((zit (fHanS q n) (fNi0 sh n (zit2 (fNiS q sh W Pn E K) (fBegin C W Pn, cl) n).1) K), (zit2 (fNiS q sh W Pn E K) (fBegin C W Pn, cl) n).2) w).2).1 := vN
              have hTk := fun e (he : e ≤ E) => zit2_keep (w := w) (n := n) (s := zsh sh n) hq RT0 dT0 NT0 e he
              have hvn : zit2 (fVanS q E n (zsh sh n)) ((zit (fHanS q n) (fNi0 sh n (zit2 (fNiS q sh W Pn E K) (fBegin C W Pn, cl) n).1) K), (zit2 (fNiS q sh W Pn E K) (fBegin C W Pn, cl) n).2) (w + 1) = (if (zit2 (fVanS q E n (zsh sh n)) ((zit (fHanS q n) (fNi0 sh n (zit2 (fNiS q sh W Pn E K) (fBegin C W Pn, cl) n).1) K), (zit2 (fNiS q sh W Pn E K) (fBegin C W Pn, cl) n).2) w).1 (q + 8) (n * 3 + w) ≤ 0 then (zit2 (fVanS q E n (zsh sh n)) ((zit (fHanS q n) (fNi0 sh n (zit2 (fNiS q sh W Pn E K) (fBegin C W Pn, cl) n).1) K), (zit2 (fNiS q sh W Pn E K) (fBegin C W Pn, cl) n).2) w) else (zit2 (fEntS q w n (zsh sh n)) (zs (zs (zit2 (fVanS q E n (zsh sh n)) ((zit (fHanS q n) (fNi0 sh n (zit2 (fNiS q sh W Pn E K) (fBegin C W Pn, cl) n).1) K), (zit2 (fNiS q sh W Pn E K) (fBegin C W Pn, cl) n).2) w).1 57 18 (nI 0)) 57 19 (nI 0), (zit2 (fVanS q E n (zsh sh n)) ((zit (fHanS q n) (fNi0 sh n (zit2 (fNiS q sh W Pn E K) (fBegin C W Pn, cl) n).1) K), (zit2 (fNiS q sh W Pn E K) (fBegin C W Pn, cl) n).2) w).2) E)) := rfl
              have ihv := fun (X : zm_I) (Y : zm_J) (l5 : Option Value) => ih_van (w + 1) X Y l5 (by omega)
              rw [hvn] at ihv
              clear hvn
              have hq8 : (zit2 (fVanS q E n (zsh sh n)) ((zit (fHanS q n) (fNi0 sh n (zit2 (fNiS q sh W Pn E K) (fBegin C W Pn, cl) n).1) K), (zit2 (fNiS q sh W Pn E K) (fBegin C W Pn, cl) n).2) w).1 (q + 8) = C (q + 8) := hCV (q + 8) (by omega)
              have hV0 : zVS W Pn E n sh gi (fun e => zi (C (q + 1) e) < n ∨ (zi (C (q + 1) e) = n ∧ zi (C (q + 2) e) < w)) (zs (zs (zit2 (fVanS q E n (zsh sh n)) ((zit (fHanS q n) (fNi0 sh n (zit2 (fNiS q sh W Pn E K) (fBegin C W Pn, cl) n).1) K), (zit2 (fNiS q sh W Pn E K) (fBegin C W Pn, cl) n).2) w).1 57 18 (nI 0)) 57 19 (nI 0), (zit2 (fVanS q E n (zsh sh n)) ((zit (fHanS q n) (fNi0 sh n (zit2 (fNiS q sh W Pn E K) (fBegin C W Pn, cl) n).1) K), (zit2 (fNiS q sh W Pn E K) (fBegin C W Pn, cl) n).2) w).2).1 X := zVS_57 (by decide) (zVS_57 (by decide) hV)
              have hT0 : zTR w (zs (zs (zit2 (fVanS q E n (zsh sh n)) ((zit (fHanS q n) (fNi0 sh n (zit2 (fNiS q sh W Pn E K) (fBegin C W Pn, cl) n).1) K), (zit2 (fNiS q sh W Pn E K) (fBegin C W Pn, cl) n).2) w).1 57 18 (nI 0)) 57 19 (nI 0), (zit2 (fVanS q E n (zsh sh n)) ((zit (fHanS q n) (fNi0 sh n (zit2 (fNiS q sh W Pn E K) (fBegin C W Pn, cl) n).1) K), (zit2 (fNiS q sh W Pn E K) (fBegin C W Pn, cl) n).2) w).2).1 X := by
                obtain ⟨z1, z2⟩ := hZr w (Nat.le_refl _) (by omega)
                exact ⟨z1, z2, 0, by decide, rfl⟩
              have ent : ∀ (m e : Nat) (X : zm_I) (Y : zm_J), e + m = E → (zVS W Pn E n sh gi (fun e' => (zi (C (q + 1) e') < n ∨ (zi (C (q + 1) e') = n ∧ zi (C (q + 2) e') < w)) ∨ (zi (C (q + 1) e') = n ∧ zi (C (q + 2) e') = w ∧ e' < e)) (zit2 (fEntS q w n (zsh sh n)) (zs (zs (zit2 (fVanS q E n (zsh sh n)) ((zit (fHanS q n) (fNi0 sh n (zit2 (fNiS q sh W Pn E K) (fBegin C W Pn, cl) n).1) K), (zit2 (fNiS q sh W Pn E K) (fBegin C W Pn, cl) n).2) w).1 57 18 (nI 0)) 57 19 (nI 0), (zit2 (fVanS q E n (zsh sh n)) ((zit (fHanS q n) (fNi0 sh n (zit2 (fNiS q sh W Pn E K) (fBegin C W Pn, cl) n).1) K), (zit2 (fNiS q sh W Pn E K) (fBegin C W Pn, cl) n).2) w).2) e).1 X) → (zTR w (zit2 (fEntS q w n (zsh sh n)) (zs (zs (zit2 (fVanS q E n (zsh sh n)) ((zit (fHanS q n) (fNi0 sh n (zit2 (fNiS q sh W Pn E K) (fBegin C W Pn, cl) n).1) K), (zit2 (fNiS q sh W Pn E K) (fBegin C W Pn, cl) n).2) w).1 57 18 (nI 0)) 57 19 (nI 0), (zit2 (fVanS q E n (zsh sh n)) ((zit (fHanS q n) (fNi0 sh n (zit2 (fNiS q sh W Pn E K) (fBegin C W Pn, cl) n).1) K), (zit2 (fNiS q sh W Pn E K) (fBegin C W Pn, cl) n).2) w).2) e).1 X) → (∀ w', w < w' → w' < 3 → X 124 w' = nI 0 ∧ X 125 w' = nI 0) → (∀ q, q ≠ 121 → Y q = gl q) → zB_v x g mX11_runIt 6 zSH (fun gi' gl' gr' => zFin W Pn E (zit fFineS (zit fFuelS (zit2 (fNiS q sh W Pn E K) (fBegin C W Pn, cl) 4).1 W) Pn) gi' ∧ (∀ p, p < Pn → (zit fFineS (zit fFuelS (zit2 (fNiS q sh W Pn E K) (fBegin C W Pn, cl) 4).1 W) Pn) 71 p = -1 ∨ zx ((zit fFineS (zit fFuelS (zit2 (fNiS q sh W Pn E K) (fBegin C W Pn, cl) 4).1 W) Pn) 71 p) 4) ∧ zXg gi gi' ∧ (∀ q, q ≠ 121 → gl' q = gl q) ∧ gr' = zRT r) 215 [some (.ref 87), some (.int sh), some (.int (nI E)), some (.int (nI n)), some (.int (nI w)), some (.int (nI e))] [] X Y (zRT r) := by
                intro m
                induction m with
                | zero =>
                  intro e X Y  hm hV hTr hZr hY
                  refine zA_iload_5 dX11_runIt_215 ?_
                  refine zA_iload_2 dX11_runIt_217 ?_
                  refine zA_icmp_geN 262 dX11_runIt_218 (by decide) (by omega) (by omega) (fun h3 => ?_) (fun h3 => ?_)
                  · have e9 : e = E := by omega
                    rw [e9] at hV
                    refine zA_iinc_4 (v := nI (w + 1)) dX11_runIt_262 (zn_inc _) rfl ?_
                    refine zA_goto 203 dX11_runIt_265 (by decide) ?_
                    have hdn : zVS W Pn E n sh gi (fun e => zi (C (q + 1) e) < n ∨ (zi (C (q + 1) e) = n ∧ zi (C (q + 2) e) < (w + 1))) (zit2 (fEntS q w n (zsh sh n)) (zs (zs (zit2 (fVanS q E n (zsh sh n)) ((zit (fHanS q n) (fNi0 sh n (zit2 (fNiS q sh W Pn E K) (fBegin C W Pn, cl) n).1) K), (zit2 (fNiS q sh W Pn E K) (fBegin C W Pn, cl) n).2) w).1 57 18 (nI 0)) 57 19 (nI 0), (zit2 (fVanS q E n (zsh sh n)) ((zit (fHanS q n) (fNi0 sh n (zit2 (fNiS q sh W Pn E K) (fBegin C W Pn, cl) n).1) K), (zit2 (fNiS q sh W Pn E K) (fBegin C W Pn, cl) n).2) w).2) E).1 X := zVS_dn (fun e' he' hd => by
                      rcases hd with z | ⟨z1, z2⟩
                      · exact Or.inl (Or.inl z)
                      · rcases (show zi (C (q + 2) e') < w ∨ zi (C (q + 2) e') = w by omega) with y | y
                        · exact Or.inl (Or.inr ⟨z1, y⟩)
                        · exact Or.inr ⟨z1, y, he'⟩) hV
                    refine ihv X Y _ ?_ (fun w' h1 => hZr w' (by omega)) hY
                    by_cases hpl : (zit2 (fVanS q E n (zsh sh n)) ((zit (fHanS q n) (fNi0 sh n (zit2 (fNiS q sh W Pn E K) (fBegin C W Pn, cl) n).1) K), (zit2 (fNiS q sh W Pn E K) (fBegin C W Pn, cl) n).2) w).1 (q + 8) (n * 3 + w) ≤ 0
                    · rw [if_pos hpl]
                      have hid : (zit2 (fEntS q w n (zsh sh n)) (zs (zs (zit2 (fVanS q E n (zsh sh n)) ((zit (fHanS q n) (fNi0 sh n (zit2 (fNiS q sh W Pn E K) (fBegin C W Pn, cl) n).1) K), (zit2 (fNiS q sh W Pn E K) (fBegin C W Pn, cl) n).2) w).1 57 18 (nI 0)) 57 19 (nI 0), (zit2 (fVanS q E n (zsh sh n)) ((zit (fHanS q n) (fNi0 sh n (zit2 (fNiS q sh W Pn E K) (fBegin C W Pn, cl) n).1) K), (zit2 (fNiS q sh W Pn E K) (fBegin C W Pn, cl) n).2) w).2) E) = (zs (zs (zit2 (fVanS q E n (zsh sh n)) ((zit (fHanS q n) (fNi0 sh n (zit2 (fNiS q sh W Pn E K) (fBegin C W Pn, cl) n).1) K), (zit2 (fNiS q sh W Pn E K) (fBegin C W Pn, cl) n).2) w).1 57 18 (nI 0)) 57 19 (nI 0), (zit2 (fVanS q E n (zsh sh n)) ((zit (fHanS q n) (fNi0 sh n (zit2 (fNiS q sh W Pn E K) (fBegin C W Pn, cl) n).1) K), (zit2 (fNiS q sh W Pn E K) (fBegin C W Pn, cl) n).2) w).2) := zit2_id E (fun e' he' => by
                        have e1 : (zs (zs (zit2 (fVanS q E n (zsh sh n)) ((zit (fHanS q n) (fNi0 sh n (zit2 (fNiS q sh W Pn E K) (fBegin C W Pn, cl) n).1) K), (zit2 (fNiS q sh W Pn E K) (fBegin C W Pn, cl) n).2) w).1 57 18 (nI 0)) 57 19 (nI 0), (zit2 (fVanS q E n (zsh sh n)) ((zit (fHanS q n) (fNi0 sh n (zit2 (fNiS q sh W Pn E K) (fBegin C W Pn, cl) n).1) K), (zit2 (fNiS q sh W Pn E K) (fBegin C W Pn, cl) n).2) w).2).1 (q + 1) = C (q + 1) := (hCV.tr aT) (q + 1) (by omega)
                        have e2 : (zs (zs (zit2 (fVanS q E n (zsh sh n)) ((zit (fHanS q n) (fNi0 sh n (zit2 (fNiS q sh W Pn E K) (fBegin C W Pn, cl) n).1) K), (zit2 (fNiS q sh W Pn E K) (fBegin C W Pn, cl) n).2) w).1 57 18 (nI 0)) 57 19 (nI 0), (zit2 (fVanS q E n (zsh sh n)) ((zit (fHanS q n) (fNi0 sh n (zit2 (fNiS q sh W Pn E K) (fBegin C W Pn, cl) n).1) K), (zit2 (fNiS q sh W Pn E K) (fBegin C W Pn, cl) n).2) w).2).1 (q + 2) = C (q + 2) := (hCV.tr aT) (q + 2) (by omega)
                        rw [e1, e2]
                        rw [hq8] at hpl
                        exact hPl n w e' h h2 he' hpl)
                      rw [hid] at hdn
                      exact zVS_57r (by decide) (zVS_57r (by decide) hdn)
                    · rw [if_neg hpl]
                      exact hdn
                  · exact absurd h3 (by omega)
                | succ m ih_ent =>
                  intro e X Y  hm hV hTr hZr hY
                  refine zA_iload_5 dX11_runIt_215 ?_
                  refine zA_iload_2 dX11_runIt_217 ?_
                  refine zA_icmp_geN 262 dX11_runIt_218 (by decide) (by omega) (by omega) (fun h3 => ?_) (fun h3 => ?_)
                  · exact absurd h3 (by omega)
                  · obtain ⟨tA, td, tN⟩ := hTk e (by omega)
                    have tR := zRs_ag hq tA RT0
                    have hCT : zAg C (zit2 (fEntS q w n (zsh sh n)) (zs (zs (zit2 (fVanS q E n (zsh sh n)) ((zit (fHanS q n) (fNi0 sh n (zit2 (fNiS q sh W Pn E K) (fBegin C W Pn, cl) n).1) K), (zit2 (fNiS q sh W Pn E K) (fBegin C W Pn, cl) n).2) w).1 57 18 (nI 0)) 57 19 (nI 0), (zit2 (fVanS q E n (zsh sh n)) ((zit (fHanS q n) (fNi0 sh n (zit2 (fNiS q sh W Pn E K) (fBegin C W Pn, cl) n).1) K), (zit2 (fNiS q sh W Pn E K) (fBegin C W Pn, cl) n).2) w).2) e).1 := (hCV.tr aT).tr tA
                    have hSX := zSR_ag hP4 hq hCT hV.2.2.1 hS
                    have hnx : zit2 (fEntS q w n (zsh sh n)) (zs (zs (zit2 (fVanS q E n (zsh sh n)) ((zit (fHanS q n) (fNi0 sh n (zit2 (fNiS q sh W Pn E K) (fBegin C W Pn, cl) n).1) K), (zit2 (fNiS q sh W Pn E K) (fBegin C W Pn, cl) n).2) w).1 57 18 (nI 0)) 57 19 (nI 0), (zit2 (fVanS q E n (zsh sh n)) ((zit (fHanS q n) (fNi0 sh n (zit2 (fNiS q sh W Pn E K) (fBegin C W Pn, cl) n).1) K), (zit2 (fNiS q sh W Pn E K) (fBegin C W Pn, cl) n).2) w).2) (e + 1) = fEntS q w n (zsh sh n) (zit2 (fEntS q w n (zsh sh n)) (zs (zs (zit2 (fVanS q E n (zsh sh n)) ((zit (fHanS q n) (fNi0 sh n (zit2 (fNiS q sh W Pn E K) (fBegin C W Pn, cl) n).1) K), (zit2 (fNiS q sh W Pn E K) (fBegin C W Pn, cl) n).2) w).1 57 18 (nI 0)) 57 19 (nI 0), (zit2 (fVanS q E n (zsh sh n)) ((zit (fHanS q n) (fNi0 sh n (zit2 (fNiS q sh W Pn E K) (fBegin C W Pn, cl) n).1) K), (zit2 (fNiS q sh W Pn E K) (fBegin C W Pn, cl) n).2) w).2) e) e := rfl
                    have ih2 := fun (X : zm_I) (Y : zm_J) => ih_ent (e + 1) X Y (by omega)
                    rw [hnx] at ih2
                    clear hnx
                    have cq1 : (zit2 (fEntS q w n (zsh sh n)) (zs (zs (zit2 (fVanS q E n (zsh sh n)) ((zit (fHanS q n) (fNi0 sh n (zit2 (fNiS q sh W Pn E K) (fBegin C W Pn, cl) n).1) K), (zit2 (fNiS q sh W Pn E K) (fBegin C W Pn, cl) n).2) w).1 57 18 (nI 0)) 57 19 (nI 0), (zit2 (fVanS q E n (zsh sh n)) ((zit (fHanS q n) (fNi0 sh n (zit2 (fNiS q sh W Pn E K) (fBegin C W Pn, cl) n).1) K), (zit2 (fNiS q sh W Pn E K) (fBegin C W Pn, cl) n).2) w).2) e).1 (q + 1) = C (q + 1) := hCT (q + 1) (by omega)
                    have cq2 : (zit2 (fEntS q w n (zsh sh n)) (zs (zs (zit2 (fVanS q E n (zsh sh n)) ((zit (fHanS q n) (fNi0 sh n (zit2 (fNiS q sh W Pn E K) (fBegin C W Pn, cl) n).1) K), (zit2 (fNiS q sh W Pn E K) (fBegin C W Pn, cl) n).2) w).1 57 18 (nI 0)) 57 19 (nI 0), (zit2 (fVanS q E n (zsh sh n)) ((zit (fHanS q n) (fNi0 sh n (zit2 (fNiS q sh W Pn E K) (fBegin C W Pn, cl) n).1) K), (zit2 (fNiS q sh W Pn E K) (fBegin C W Pn, cl) n).2) w).2) e).1 (q + 2) = C (q + 2) := hCT (q + 2) (by omega)
                    generalize (zit2 (fEntS q w n (zsh sh n)) (zs (zs (zit2 (fVanS q E n (zsh sh n)) ((zit (fHanS q n) (fNi0 sh n (zit2 (fNiS q sh W Pn E K) (fBegin C W Pn, cl) n).1) K), (zit2 (fNiS q sh W Pn E K) (fBegin C W Pn, cl) n).2) w).1 57 18 (nI 0)) 57 19 (nI 0), (zit2 (fVanS q E n (zsh sh n)) ((zit (fHanS q n) (fNi0 sh n (zit2 (fNiS q sh W Pn E K) (fBegin C W Pn, cl) n).1) K), (zit2 (fNiS q sh W Pn E K) (fBegin C W Pn, cl) n).2) w).2) e) = D at *
                    obtain ⟨b1, b2, b3, b4⟩ := hSX.2.2.2.2.2.2.2.2.1 e h3
                    refine zA_aload_0 dX11_runIt_221 ?_
                    refine zA_getR sh_87 fX11_43 dX11_runIt_222 rfl (rt_87_19 _) ?_
                    refine zA_iconst (nI 4) dX11_runIt_225 ic_4 ?_
                    refine zA_iload_5 dX11_runIt_226 ?_
                    refine zA_imulN dX11_runIt_228 ?_
                    refine zA_iald (v := (D.1 (q + 1) e)) (4 * e) sh_99 dX11_runIt_229 rfl (by omega) (by decide) b1 ?_
                    refine zA_iload_3 dX11_runIt_230 ?_
                    refine zA_icmp_ne 256 dX11_runIt_231 (by decide) (fun h4 => ?_) (fun h4 => ?_)
                    · refine zA_iinc_5 (v := nI (e + 1)) dX11_runIt_256 (zn_inc _) rfl ?_
                      refine zA_goto 215 dX11_runIt_259 (by decide) ?_
                      have e9 : fEntS q w n (zsh sh n) D e = D := fEntS_id (fun z => h4 z.1)
                      rw [e9] at ih2
                      refine ih2 X Y (zVS_dn (fun e' he' hd => ?_) hV) hTr hZr hY
                      rcases hd with z | ⟨z1, z2, z3⟩
                      · exact Or.inl z
                      · by_cases c : e' = e
                        · subst c
                          exfalso
                          have y1 := (r7 e' he').1.1
                          rw [z1, ← cq1] at y1
                          exact h4 y1
                        · exact Or.inr ⟨z1, z2, by omega⟩
                    · refine zA_aload_0 dX11_runIt_234 ?_
                      refine zA_getR sh_87 fX11_43 dX11_runIt_235 rfl (rt_87_19 _) ?_
                      refine zA_iconst (nI 4) dX11_runIt_238 ic_4 ?_
                      refine zA_iload_5 dX11_runIt_239 ?_
                      refine zA_imulN dX11_runIt_241 ?_
                      refine zA_iconst (nI 1) dX11_runIt_242 ic_1 ?_
                      refine zA_iaddN dX11_runIt_243 ?_
                      refine zA_iald (v := (D.1 (q + 2) e)) ((4 * e) + 1) sh_99 dX11_runIt_244 rfl (by omega) (by decide) b2 ?_
                      refine zA_iload_4 dX11_runIt_245 ?_
                      refine zA_icmp_ne 256 dX11_runIt_247 (by decide) (fun h5 => ?_) (fun h5 => ?_)
                      · refine zA_iinc_5 (v := nI (e + 1)) dX11_runIt_256 (zn_inc _) rfl ?_
                        refine zA_goto 215 dX11_runIt_259 (by decide) ?_
                        have e9 : fEntS q w n (zsh sh n) D e = D := fEntS_id (fun z => h5 z.2)
                        rw [e9] at ih2
                        refine ih2 X Y (zVS_dn (fun e' he' hd => ?_) hV) hTr hZr hY
                        rcases hd with z | ⟨z1, z2, z3⟩
                        · exact Or.inl z
                        · by_cases c : e' = e
                          · subst c
                            exfalso
                            have y1 := (r7 e' he').2.1.1
                            rw [z2, ← cq2] at y1
                            exact h5 y1
                          · exact Or.inr ⟨z1, z2, by omega⟩
                      · refine zA_aload_0 dX11_runIt_250 ?_
                        refine zA_iload_5 dX11_runIt_251 ?_
                        refine zA_cVv (ct_rShows g X Y r D.1 D.2 hq tR td tN h hsl (by rw [hV.2.2.2.1]) h2 h3 h4 h5 hSX hV.1 hV.2.1 hTr) calX11_shows stX11_shows lX11_407 dX11_runIt_253 (by decide) (by simp [Value.category]) rfl (Nat.le_refl _) (Nat.le_refl _) sh_87 rfl (fun X2 Y2 gr2 ⟨hO, e2, e3⟩ => ?_)
                        rw [e3]
                        clear e3
                        refine zA_iinc_5 (v := nI (e + 1)) dX11_runIt_256 (zn_inc _) rfl ?_
                        refine zA_goto 215 dX11_runIt_259 (by decide) ?_
                        have e1 : fEntS q w n (zsh sh n) (D.1, D.2) e = fEntS q w n (zsh sh n) D e := rfl
                        rw [e1] at hO
                        refine ih2 X2 Y2 (zVS_dn (fun e' he' hd => ?_) (zVS_show hV hO (zKe_ent q w n (zsh sh n) D e))) hO.2.2.1 (fun w' h1 h6 => ?_) (fun q hq => (e2 q hq).trans (hY q hq))
                        · rcases hd with z | ⟨z1, z2, z3⟩
                          · exact Or.inl (Or.inl z)
                          · by_cases c : e' = e
                            · exact Or.inr c
                            · exact Or.inl (Or.inr ⟨z1, z2, by omega⟩)
                        · obtain ⟨o1, o2⟩ := hO.2.2.2.2.2.2.1 w' (by omega)
                          rw [o1, o2]
                          exact hZr w' h1 h6
              refine zA_iconst (nI 0) dX11_runIt_212 ic_0 ?_
              refine zA_istore_5 dX11_runIt_213 rfl ?_
              exact ent E 0 X Y (by omega) (zVS_dn (fun e' he' hd => hd.elim id (fun z => absurd z.2.2 (Nat.not_lt_zero _))) hV0) hT0 (fun w' h1 => hZr w' (by omega)) hY
        refine zA_iconst (nI 0) dX11_runIt_140 ic_0 ?_
        refine zA_istore_4 dX11_runIt_141 rfl ?_
        refine zA_iload_4 dX11_runIt_143 ?_
        refine zA_iconst (nI 3) dX11_runIt_145 ic_3 ?_
        refine zA_icmp_geN 171 dX11_runIt_146 (by decide) (by decide) (by decide) (fun hh => absurd hh (by decide)) (fun _ => ?_)
        refine zA_aload_0 dX11_runIt_149 ?_
        refine zA_getR sh_87 fX11_124 dX11_runIt_150 rfl (rt_87_69 _) ?_
        refine zA_iload_4 dX11_runIt_153 ?_
        refine zA_iconst (nI 0) dX11_runIt_155 ic_0 ?_
        refine zS_iast 0 sh_124 dX11_runIt_156 rfl (by decide) (by decide) ?_
        refine zA_aload_0 dX11_runIt_157 ?_
        refine zA_getR sh_87 fX11_127 dX11_runIt_158 rfl (rt_87_70 _) ?_
        refine zA_iload_4 dX11_runIt_161 ?_
        refine zA_iconst (nI 0) dX11_runIt_163 ic_0 ?_
        refine zS_iast 0 sh_125 dX11_runIt_164 rfl (by decide) (by decide) ?_
        refine zA_iinc_4 (v := nI (0 + 1)) dX11_runIt_165 (zn_inc _) rfl ?_
        refine zA_goto 143 dX11_runIt_168 (by decide) ?_
        refine zA_iload_4 dX11_runIt_143 ?_
        refine zA_iconst (nI 3) dX11_runIt_145 ic_3 ?_
        refine zA_icmp_geN 171 dX11_runIt_146 (by decide) (by decide) (by decide) (fun hh => absurd hh (by decide)) (fun _ => ?_)
        refine zA_aload_0 dX11_runIt_149 ?_
        refine zA_getR sh_87 fX11_124 dX11_runIt_150 rfl (rt_87_69 _) ?_
        refine zA_iload_4 dX11_runIt_153 ?_
        refine zA_iconst (nI 0) dX11_runIt_155 ic_0 ?_
        refine zS_iast 1 sh_124 dX11_runIt_156 rfl (by decide) (by decide) ?_
        refine zA_aload_0 dX11_runIt_157 ?_
        refine zA_getR sh_87 fX11_127 dX11_runIt_158 rfl (rt_87_70 _) ?_
        refine zA_iload_4 dX11_runIt_161 ?_
        refine zA_iconst (nI 0) dX11_runIt_163 ic_0 ?_
        refine zS_iast 1 sh_125 dX11_runIt_164 rfl (by decide) (by decide) ?_
        refine zA_iinc_4 (v := nI (1 + 1)) dX11_runIt_165 (zn_inc _) rfl ?_
        refine zA_goto 143 dX11_runIt_168 (by decide) ?_
        refine zA_iload_4 dX11_runIt_143 ?_
        refine zA_iconst (nI 3) dX11_runIt_145 ic_3 ?_
        refine zA_icmp_geN 171 dX11_runIt_146 (by decide) (by decide) (by decide) (fun hh => absurd hh (by decide)) (fun _ => ?_)
        refine zA_aload_0 dX11_runIt_149 ?_
        refine zA_getR sh_87 fX11_124 dX11_runIt_150 rfl (rt_87_69 _) ?_
        refine zA_iload_4 dX11_runIt_153 ?_
        refine zA_iconst (nI 0) dX11_runIt_155 ic_0 ?_
        refine zS_iast 2 sh_124 dX11_runIt_156 rfl (by decide) (by decide) ?_
        refine zA_aload_0 dX11_runIt_157 ?_
        refine zA_getR sh_87 fX11_127 dX11_runIt_158 rfl (rt_87_70 _) ?_
        refine zA_iload_4 dX11_runIt_161 ?_
        refine zA_iconst (nI 0) dX11_runIt_163 ic_0 ?_
        refine zS_iast 2 sh_125 dX11_runIt_164 rfl (by decide) (by decide) ?_
        refine zA_iinc_4 (v := nI (2 + 1)) dX11_runIt_165 (zn_inc _) rfl ?_
        refine zA_goto 143 dX11_runIt_168 (by decide) ?_
        refine zA_iload_4 dX11_runIt_143 ?_
        refine zA_iconst (nI 3) dX11_runIt_145 ic_3 ?_
        refine zA_icmp_geN 171 dX11_runIt_146 (by decide) (by decide) (by decide) (fun _ => ?_) (fun hh => absurd hh (by decide))
        refine zA_iconst (nI 0) dX11_runIt_171 ic_0 ?_
        refine zA_istore_4 dX11_runIt_172 rfl ?_
        refine zA_iload_4 dX11_runIt_174 ?_
        refine zA_bipush (nI 8) dX11_runIt_176 bc_8 ?_
        refine zA_icmp_geN 195 dX11_runIt_178 (by decide) (by decide) (by decide) (fun hh => absurd hh (by decide)) (fun _ => ?_)
        refine zA_aload_0 dX11_runIt_181 ?_
        refine zA_getR sh_87 fX11_130 dX11_runIt_182 rfl (rt_87_71 _) ?_
        refine zA_iload_4 dX11_runIt_185 ?_
        refine zA_iconst (nI 0) dX11_runIt_187 ic_0 ?_
        refine zS_zast 0 sh_126 dX11_runIt_188 rfl (by decide) (by decide) (by decide) ?_
        refine zA_iinc_4 (v := nI (0 + 1)) dX11_runIt_189 (zn_inc _) rfl ?_
        refine zA_goto 174 dX11_runIt_192 (by decide) ?_
        refine zA_iload_4 dX11_runIt_174 ?_
        refine zA_bipush (nI 8) dX11_runIt_176 bc_8 ?_
        refine zA_icmp_geN 195 dX11_runIt_178 (by decide) (by decide) (by decide) (fun hh => absurd hh (by decide)) (fun _ => ?_)
        refine zA_aload_0 dX11_runIt_181 ?_
        refine zA_getR sh_87 fX11_130 dX11_runIt_182 rfl (rt_87_71 _) ?_
        refine zA_iload_4 dX11_runIt_185 ?_
        refine zA_iconst (nI 0) dX11_runIt_187 ic_0 ?_
        refine zS_zast 1 sh_126 dX11_runIt_188 rfl (by decide) (by decide) (by decide) ?_
        refine zA_iinc_4 (v := nI (1 + 1)) dX11_runIt_189 (zn_inc _) rfl ?_
        refine zA_goto 174 dX11_runIt_192 (by decide) ?_
        refine zA_iload_4 dX11_runIt_174 ?_
        refine zA_bipush (nI 8) dX11_runIt_176 bc_8 ?_
        refine zA_icmp_geN 195 dX11_runIt_178 (by decide) (by decide) (by decide) (fun hh => absurd hh (by decide)) (fun _ => ?_)
        refine zA_aload_0 dX11_runIt_181 ?_
        refine zA_getR sh_87 fX11_130 dX11_runIt_182 rfl (rt_87_71 _) ?_
        refine zA_iload_4 dX11_runIt_185 ?_
        refine zA_iconst (nI 0) dX11_runIt_187 ic_0 ?_
        refine zS_zast 2 sh_126 dX11_runIt_188 rfl (by decide) (by decide) (by decide) ?_
        refine zA_iinc_4 (v := nI (2 + 1)) dX11_runIt_189 (zn_inc _) rfl ?_
        refine zA_goto 174 dX11_runIt_192 (by decide) ?_
        refine zA_iload_4 dX11_runIt_174 ?_
        refine zA_bipush (nI 8) dX11_runIt_176 bc_8 ?_
        refine zA_icmp_geN 195 dX11_runIt_178 (by decide) (by decide) (by decide) (fun hh => absurd hh (by decide)) (fun _ => ?_)
        refine zA_aload_0 dX11_runIt_181 ?_
        refine zA_getR sh_87 fX11_130 dX11_runIt_182 rfl (rt_87_71 _) ?_
        refine zA_iload_4 dX11_runIt_185 ?_
        refine zA_iconst (nI 0) dX11_runIt_187 ic_0 ?_
        refine zS_zast 3 sh_126 dX11_runIt_188 rfl (by decide) (by decide) (by decide) ?_
        refine zA_iinc_4 (v := nI (3 + 1)) dX11_runIt_189 (zn_inc _) rfl ?_
        refine zA_goto 174 dX11_runIt_192 (by decide) ?_
        refine zA_iload_4 dX11_runIt_174 ?_
        refine zA_bipush (nI 8) dX11_runIt_176 bc_8 ?_
        refine zA_icmp_geN 195 dX11_runIt_178 (by decide) (by decide) (by decide) (fun hh => absurd hh (by decide)) (fun _ => ?_)
        refine zA_aload_0 dX11_runIt_181 ?_
        refine zA_getR sh_87 fX11_130 dX11_runIt_182 rfl (rt_87_71 _) ?_
        refine zA_iload_4 dX11_runIt_185 ?_
        refine zA_iconst (nI 0) dX11_runIt_187 ic_0 ?_
        refine zS_zast 4 sh_126 dX11_runIt_188 rfl (by decide) (by decide) (by decide) ?_
        refine zA_iinc_4 (v := nI (4 + 1)) dX11_runIt_189 (zn_inc _) rfl ?_
        refine zA_goto 174 dX11_runIt_192 (by decide) ?_
        refine zA_iload_4 dX11_runIt_174 ?_
        refine zA_bipush (nI 8) dX11_runIt_176 bc_8 ?_
        refine zA_icmp_geN 195 dX11_runIt_178 (by decide) (by decide) (by decide) (fun hh => absurd hh (by decide)) (fun _ => ?_)
        refine zA_aload_0 dX11_runIt_181 ?_
        refine zA_getR sh_87 fX11_130 dX11_runIt_182 rfl (rt_87_71 _) ?_
        refine zA_iload_4 dX11_runIt_185 ?_
        refine zA_iconst (nI 0) dX11_runIt_187 ic_0 ?_
        refine zS_zast 5 sh_126 dX11_runIt_188 rfl (by decide) (by decide) (by decide) ?_
        refine zA_iinc_4 (v := nI (5 + 1)) dX11_runIt_189 (zn_inc _) rfl ?_
        refine zA_goto 174 dX11_runIt_192 (by decide) ?_
        refine zA_iload_4 dX11_runIt_174 ?_
        refine zA_bipush (nI 8) dX11_runIt_176 bc_8 ?_
        refine zA_icmp_geN 195 dX11_runIt_178 (by decide) (by decide) (by decide) (fun hh => absurd hh (by decide)) (fun _ => ?_)
        refine zA_aload_0 dX11_runIt_181 ?_
        refine zA_getR sh_87 fX11_130 dX11_runIt_182 rfl (rt_87_71 _) ?_
        refine zA_iload_4 dX11_runIt_185 ?_
        refine zA_iconst (nI 0) dX11_runIt_187 ic_0 ?_
        refine zS_zast 6 sh_126 dX11_runIt_188 rfl (by decide) (by decide) (by decide) ?_
        refine zA_iinc_4 (v := nI (6 + 1)) dX11_runIt_189 (zn_inc _) rfl ?_
        refine zA_goto 174 dX11_runIt_192 (by decide) ?_
        refine zA_iload_4 dX11_runIt_174 ?_
        refine zA_bipush (nI 8) dX11_runIt_176 bc_8 ?_
        refine zA_icmp_geN 195 dX11_runIt_178 (by decide) (by decide) (by decide) (fun hh => absurd hh (by decide)) (fun _ => ?_)
        refine zA_aload_0 dX11_runIt_181 ?_
        refine zA_getR sh_87 fX11_130 dX11_runIt_182 rfl (rt_87_71 _) ?_
        refine zA_iload_4 dX11_runIt_185 ?_
        refine zA_iconst (nI 0) dX11_runIt_187 ic_0 ?_
        refine zS_zast 7 sh_126 dX11_runIt_188 rfl (by decide) (by decide) (by decide) ?_
        refine zA_iinc_4 (v := nI (7 + 1)) dX11_runIt_189 (zn_inc _) rfl ?_
        refine zA_goto 174 dX11_runIt_192 (by decide) ?_
        refine zA_iload_4 dX11_runIt_174 ?_
        refine zA_bipush (nI 8) dX11_runIt_176 bc_8 ?_
        refine zA_icmp_geN 195 dX11_runIt_178 (by decide) (by decide) (by decide) (fun _ => ?_) (fun hh => absurd hh (by decide))
        refine zA_gi (gi2 := rNi0 X) rfl ?_
        obtain ⟨hV1, hZ1⟩ := zNi_ok hV
        have hS0 := zSR_ag hP4 hq ((hB.tr nA).tr a0) hV1.2.2.1 hS
        generalize rNi0 X = X1 at hV1 hZ1 hS0 ⊢
        refine zA_aload_0 dX11_runIt_195 ?_
        refine zA_iload_3 dX11_runIt_196 ?_
        refine zA_cVv (ct_rHands g X1 Y r (fNi0 sh n (zit2 (fNiS q sh W Pn E K) (fBegin C W Pn, cl) n).1) hq R0 d0 h hS0 hV1.1) calX11_handsOver stX11_handsOver lX11_404 dX11_runIt_197 (by decide) (by simp [Value.category]) rfl (Nat.le_refl _) (Nat.le_refl _) sh_87 rfl (fun X2 Y2 gr2 ⟨hD2, hX2, e2, e3⟩ => ?_)
        rw [e2, e3]
        clear e2 e3
        refine zA_iconst (nI 0) dX11_runIt_200 ic_0 ?_
        refine zA_istore_4 dX11_runIt_201 rfl ?_
        refine van W 0 X2 Y _ (by omega) (zVS_dn (fun e he hd => ?_) (zHan_vs hV1 hD2 hX2 (fun a ha => zit_nq (fHanS_nq ha) _ K))) (fun w' _ h3 => ?_) hY
        · exact hd.elim id (fun z => absurd z.2 (Nat.not_lt_zero _))
        · rw [hX2 124 (by decide), hX2 125 (by decide)]
          exact hZ1 w' h3
  have see : ∀ (m k : Nat) (X : zm_I) (Y : zm_J) (l4 : Option Value) (l5 : Option Value), k + m = 32 → (X 87 66 = sh ∧ X 87 78 = nI 0 ∧ X 87 79 = nI 0 ∧ X 87 80 = nI 0 ∧ X 87 81 = nI 0 ∧ X 87 82 = nI 0) → (∀ v', v' < W → X 122 v' = C 20 v' ∧ X 123 v' = nI 0) → (∀ p', p' < Pn → X 127 p' = C (23 + p') 3 ∧ X 128 p' = nI 0 ∧ X 132 p' = -1) → (∀ j, j < k → X 129 j = nI 0) → (zXg gi X) → (∀ q, q ≠ 121 → Y q = gl q) → zB_v x g mX11_runIt 6 zSH (fun gi' gl' gr' => zFin W Pn E (zit fFineS (zit fFuelS (zit2 (fNiS q sh W Pn E K) (fBegin C W Pn, cl) 4).1 W) Pn) gi' ∧ (∀ p, p < Pn → (zit fFineS (zit fFuelS (zit2 (fNiS q sh W Pn E K) (fBegin C W Pn, cl) 4).1 W) Pn) 71 p = -1 ∨ zx ((zit fFineS (zit fFuelS (zit2 (fNiS q sh W Pn E K) (fBegin C W Pn, cl) 4).1 W) Pn) 71 p) 4) ∧ zXg gi gi' ∧ (∀ q, q ≠ 121 → gl' q = gl q) ∧ gr' = zRT r) 114 [some (.ref 87), some (.int sh), some (.int (nI E)), some (.int (nI k)), l4, l5] [] X Y (zRT r) := by
    intro m
    induction m with
    | zero =>
      intro k X Y l4 l5 hm hB0 h1 h2 h3 hX hY
      refine zA_iload_3 dX11_runIt_114 ?_
      refine zA_bipush (nI 32) dX11_runIt_115 bc_32 ?_
      refine zA_icmp_geN 133 dX11_runIt_117 (by decide) (by omega) (by omega) (fun h => ?_) (fun h => ?_)
      · have e9 : k = 32 := by omega
        subst e9
        refine zA_iconst (nI 0) dX11_runIt_133 ic_0 ?_
        refine zA_istore_3 dX11_runIt_134 rfl ?_
        obtain ⟨f1, f2, f3, f4⟩ := fBeg_at C hW3 hP4
        obtain ⟨s1, s2, s3, s4, s5, s6⟩ := hB0
        refine nig 4 0 X Y _ _ (by omega) ⟨⟨fun v hv => ⟨(h1 v hv).1.trans (f1 v hv).1.symm, (h1 v hv).2.trans (f1 v hv).2.symm⟩, fun p hp => ⟨(h2 p hp).1.trans (f2 p hp).1.symm, (h2 p hp).2.1.trans (f2 p hp).2.1.symm, (h2 p hp).2.2.trans (f2 p hp).2.2.symm⟩, fun j hj => (h3 j hj).trans (f3 j hj).symm, s3.trans (f4 0 (by decide)).symm, s2.trans (f4 1 (by decide)).symm, s4.trans (f4 2 (by decide)).symm, s6.trans (f4 4 (by decide)).symm, s5.trans (f4 3 (by decide)).symm⟩, hX, s1, fun e k he hd => absurd hd (Nat.not_lt_zero _), fun v n' hv hn' => absurd hn' (Nat.not_lt_zero _), f4 3 (by decide), fun p hp => Or.inl (f2 p hp).2.2⟩ hY
      · exact absurd h (by omega)
    | succ m ih_see =>
      intro k X Y l4 l5 hm hB0 h1 h2 h3 hX hY
      refine zA_iload_3 dX11_runIt_114 ?_
      refine zA_bipush (nI 32) dX11_runIt_115 bc_32 ?_
      refine zA_icmp_geN 133 dX11_runIt_117 (by decide) (by omega) (by omega) (fun h => ?_) (fun h => ?_)
      · exact absurd h (by omega)
      · refine zA_aload_0 dX11_runIt_120 ?_
        refine zA_getR sh_87 fX11_139 dX11_runIt_121 rfl (rt_87_74 _) ?_
        refine zA_iload_3 dX11_runIt_124 ?_
        refine zA_iconst (nI 0) dX11_runIt_125 ic_0 ?_
        refine zS_iast k sh_129 dX11_runIt_126 rfl (by omega) (by decide) ?_
        refine zA_iinc_3 (v := nI (k + 1)) dX11_runIt_127 (zn_inc _) rfl ?_
        refine zA_goto 114 dX11_runIt_130 (by decide) ?_
        refine ih_see (k + 1) _ Y _ _ (by omega) hB0 h1 h2 (fun j hj => ?_) (zXg_zs hX (by omega)) hY
        rw [zs_at]
        split
        · rfl
        · next c => exact h3 j (by omega)
  have pri : ∀ (m p : Nat) (X : zm_I) (Y : zm_J) (l4 : Option Value) (l5 : Option Value), p + m = Pn → (X 87 66 = sh ∧ X 87 78 = nI 0 ∧ X 87 79 = nI 0 ∧ X 87 80 = nI 0 ∧ X 87 81 = nI 0 ∧ X 87 82 = nI 0) → (∀ v', v' < W → X 122 v' = C 20 v' ∧ X 123 v' = nI 0) → (∀ p', p' < p → X 127 p' = C (23 + p') 3 ∧ X 128 p' = nI 0 ∧ X 132 p' = -1) → (zXg gi X) → (∀ q, q ≠ 121 → Y q = gl q) → zB_v x g mX11_runIt 6 zSH (fun gi' gl' gr' => zFin W Pn E (zit fFineS (zit fFuelS (zit2 (fNiS q sh W Pn E K) (fBegin C W Pn, cl) 4).1 W) Pn) gi' ∧ (∀ p, p < Pn → (zit fFineS (zit fFuelS (zit2 (fNiS q sh W Pn E K) (fBegin C W Pn, cl) 4).1 W) Pn) 71 p = -1 ∨ zx ((zit fFineS (zit fFuelS (zit2 (fNiS q sh W Pn E K) (fBegin C W Pn, cl) 4).1 W) Pn) 71 p) 4) ∧ zXg gi gi' ∧ (∀ q, q ≠ 121 → gl' q = gl q) ∧ gr' = zRT r) 67 [some (.ref 87), some (.int sh), some (.int (nI E)), some (.int (nI p)), l4, l5] [] X Y (zRT r) := by
    intro m
    induction m with
    | zero =>
      intro p X Y l4 l5 hm hB0 h1 h2 hX hY
      refine zA_iload_3 dX11_runIt_67 ?_
      refine zA_aload_0 dX11_runIt_68 ?_
      refine zA_getI (v := (nI Pn)) sh_87 fX11_192 dX11_runIt_69 rfl ((hst X hX).2) ?_
      refine zA_icmp_geN 112 dX11_runIt_72 (by decide) (by omega) (by omega) (fun h => ?_) (fun h => ?_)
      · have e9 : p = Pn := by omega
        subst e9
        refine zA_iconst (nI 0) dX11_runIt_112 ic_0 ?_
        refine zA_istore_3 dX11_runIt_113 rfl ?_
        exact see 32 0 X Y _ _ (by omega) hB0 h1 h2 (fun j hj => absurd hj (Nat.not_lt_zero _)) hX hY
      · exact absurd h (by omega)
    | succ m ih_pri =>
      intro p X Y l4 l5 hm hB0 h1 h2 hX hY
      refine zA_iload_3 dX11_runIt_67 ?_
      refine zA_aload_0 dX11_runIt_68 ?_
      refine zA_getI (v := (nI Pn)) sh_87 fX11_192 dX11_runIt_69 rfl ((hst X hX).2) ?_
      refine zA_icmp_geN 112 dX11_runIt_72 (by decide) (by omega) (by omega) (fun h => ?_) (fun h => ?_)
      · exact absurd h (by omega)
      · have x3 : X 97 (7 * p + 3) = C (23 + p) 3 := by rw [hX.1 97 (by omega) (by decide)]; exact hS.2.2.2.2.2.2.1 p 3 h (by decide)
        refine zA_aload_0 dX11_runIt_75 ?_
        refine zA_getR sh_87 fX11_133 dX11_runIt_76 rfl (rt_87_72 _) ?_
        refine zA_iload_3 dX11_runIt_79 ?_
        refine zA_aload_0 dX11_runIt_80 ?_
        refine zA_getR sh_87 fX11_37 dX11_runIt_81 rfl (rt_87_16 _) ?_
        refine zA_bipush (nI 7) dX11_runIt_84 bc_7 ?_
        refine zA_iload_3 dX11_runIt_86 ?_
        refine zA_imulN dX11_runIt_87 ?_
        refine zA_iconst (nI 3) dX11_runIt_88 ic_3 ?_
        refine zA_iaddN dX11_runIt_89 ?_
        refine zA_iald (v := (C (23 + p) 3)) ((7 * p) + 3) sh_97 dX11_runIt_90 rfl (by omega) (by decide) x3 ?_
        refine zS_iast p sh_127 dX11_runIt_91 rfl (by omega) (by decide) ?_
        refine zA_aload_0 dX11_runIt_92 ?_
        refine zA_getR sh_87 fX11_136 dX11_runIt_93 rfl (rt_87_73 _) ?_
        refine zA_iload_3 dX11_runIt_96 ?_
        refine zA_iconst (nI 0) dX11_runIt_97 ic_0 ?_
        refine zS_iast p sh_128 dX11_runIt_98 rfl (by omega) (by decide) ?_
        refine zA_aload_0 dX11_runIt_99 ?_
        refine zA_getR sh_87 fX11_148 dX11_runIt_100 rfl (rt_87_77 _) ?_
        refine zA_iload_3 dX11_runIt_103 ?_
        refine zA_iconst (-1) dX11_runIt_104 ic_m1 ?_
        refine zS_iast p sh_132 dX11_runIt_105 rfl (by omega) (by decide) ?_
        refine zA_iinc_3 (v := nI (p + 1)) dX11_runIt_106 (zn_inc _) rfl ?_
        refine zA_goto 67 dX11_runIt_109 (by decide) ?_
        refine ih_pri (p + 1) _ Y _ _ (by omega) hB0 h1 (fun p' hp' => ?_) (zXg_zs (zXg_zs (zXg_zs hX (by omega)) (by omega)) (by omega)) hY
        by_cases c : p' = p
        · subst c
          exact ⟨zs_eq X 127 p' _, zs_eq (zs X 127 p' _) 128 p' _, zs_eq _ 132 p' _⟩
        · obtain ⟨q1, q2, q3⟩ := h2 p' (by omega)
          refine ⟨?_, ?_, ?_⟩
          · show zs X 127 p _ 127 p' = _
            rw [zs_nj c]
            exact q1
          · show zs (zs X 127 p _) 128 p _ 128 p' = _
            rw [zs_nj c]
            exact q2
          · rw [zs_nj c]
            exact q3
  have beg : ∀ (m v : Nat) (X : zm_I) (Y : zm_J) (l4 : Option Value) (l5 : Option Value), v + m = W → (X 87 66 = sh ∧ X 87 78 = nI 0 ∧ X 87 79 = nI 0 ∧ X 87 80 = nI 0 ∧ X 87 81 = nI 0 ∧ X 87 82 = nI 0) → (∀ v', v' < v → X 122 v' = C 20 v' ∧ X 123 v' = nI 0) → (zXg gi X) → (∀ q, q ≠ 121 → Y q = gl q) → zB_v x g mX11_runIt 6 zSH (fun gi' gl' gr' => zFin W Pn E (zit fFineS (zit fFuelS (zit2 (fNiS q sh W Pn E K) (fBegin C W Pn, cl) 4).1 W) Pn) gi' ∧ (∀ p, p < Pn → (zit fFineS (zit fFuelS (zit2 (fNiS q sh W Pn E K) (fBegin C W Pn, cl) 4).1 W) Pn) 71 p = -1 ∨ zx ((zit fFineS (zit fFuelS (zit2 (fNiS q sh W Pn E K) (fBegin C W Pn, cl) 4).1 W) Pn) 71 p) 4) ∧ zXg gi gi' ∧ (∀ q, q ≠ 121 → gl' q = gl q) ∧ gr' = zRT r) 32 [some (.ref 87), some (.int sh), some (.int (nI E)), some (.int (nI v)), l4, l5] [] X Y (zRT r) := by
    intro m
    induction m with
    | zero =>
      intro v X Y l4 l5 hm hB0 h1 hX hY
      refine zA_iload_3 dX11_runIt_32 ?_
      refine zA_aload_0 dX11_runIt_33 ?_
      refine zA_getI (v := (nI W)) sh_87 fX11_186 dX11_runIt_34 rfl ((hst X hX).1) ?_
      refine zA_icmp_geN 65 dX11_runIt_37 (by decide) (by omega) (by omega) (fun h => ?_) (fun h => ?_)
      · have e9 : v = W := by omega
        subst e9
        refine zA_iconst (nI 0) dX11_runIt_65 ic_0 ?_
        refine zA_istore_3 dX11_runIt_66 rfl ?_
        exact pri Pn 0 X Y _ _ (by omega) hB0 h1 (fun p hp => absurd hp (Nat.not_lt_zero _)) hX hY
      · exact absurd h (by omega)
    | succ m ih_beg =>
      intro v X Y l4 l5 hm hB0 h1 hX hY
      refine zA_iload_3 dX11_runIt_32 ?_
      refine zA_aload_0 dX11_runIt_33 ?_
      refine zA_getI (v := (nI W)) sh_87 fX11_186 dX11_runIt_34 rfl ((hst X hX).1) ?_
      refine zA_icmp_geN 65 dX11_runIt_37 (by decide) (by omega) (by omega) (fun h => ?_) (fun h => ?_)
      · exact absurd h (by omega)
      · have x95 : X 95 v = C 20 v := by rw [hX.1 95 (by omega) (by decide)]; exact (hS.2.2.2.2.2.1 v h).1
        refine zA_aload_0 dX11_runIt_40 ?_
        refine zA_getR sh_87 fX11_118 dX11_runIt_41 rfl (rt_87_67 _) ?_
        refine zA_iload_3 dX11_runIt_44 ?_
        refine zA_aload_0 dX11_runIt_45 ?_
        refine zA_getR sh_87 fX11_31 dX11_runIt_46 rfl (rt_87_13 _) ?_
        refine zA_iload_3 dX11_runIt_49 ?_
        refine zA_iald (v := (C 20 v)) v sh_95 dX11_runIt_50 rfl (by omega) (by decide) x95 ?_
        refine zS_iast v sh_122 dX11_runIt_51 rfl (by omega) (by decide) ?_
        refine zA_aload_0 dX11_runIt_52 ?_
        refine zA_getR sh_87 fX11_121 dX11_runIt_53 rfl (rt_87_68 _) ?_
        refine zA_iload_3 dX11_runIt_56 ?_
        refine zA_iconst (nI 0) dX11_runIt_57 ic_0 ?_
        refine zS_iast v sh_123 dX11_runIt_58 rfl (by omega) (by decide) ?_
        refine zA_iinc_3 (v := nI (v + 1)) dX11_runIt_59 (zn_inc _) rfl ?_
        refine zA_goto 32 dX11_runIt_62 (by decide) ?_
        refine ih_beg (v + 1) _ Y _ _ (by omega) hB0 (fun v' hv' => ?_) (zXg_zs (zXg_zs hX (by omega)) (by omega)) hY
        by_cases c : v' = v
        · subst c
          exact ⟨zs_eq X 122 v' _, zs_eq (zs X 122 v' _) 123 v' _⟩
        · obtain ⟨q1, q2⟩ := h1 v' (by omega)
          refine ⟨?_, ?_⟩
          · show zs X 122 v _ 122 v' = _
            rw [zs_nj c]
            exact q1
          · rw [zs_nj c]
            exact q2
  refine zA_aload_0 dX11_runIt_0 ?_
  refine zA_iload_1 dX11_runIt_1 ?_
  refine zS_putI sh_87 fX11_375 dX11_runIt_2 rfl rfl ?_
  refine zA_aload_0 dX11_runIt_5 ?_
  refine zA_iconst (nI 0) dX11_runIt_6 ic_0 ?_
  refine zS_putI sh_87 fX11_398 dX11_runIt_7 rfl rfl ?_
  refine zA_aload_0 dX11_runIt_10 ?_
  refine zA_iconst (nI 0) dX11_runIt_11 ic_0 ?_
  refine zS_putI sh_87 fX11_389 dX11_runIt_12 rfl rfl ?_
  refine zA_aload_0 dX11_runIt_15 ?_
  refine zA_iconst (nI 0) dX11_runIt_16 ic_0 ?_
  refine zS_putI sh_87 fX11_392 dX11_runIt_17 rfl rfl ?_
  refine zA_aload_0 dX11_runIt_20 ?_
  refine zA_iconst (nI 0) dX11_runIt_21 ic_0 ?_
  refine zS_putI sh_87 fX11_401 dX11_runIt_22 rfl rfl ?_
  refine zA_aload_0 dX11_runIt_25 ?_
  refine zA_iconst (nI 0) dX11_runIt_26 ic_0 ?_
  refine zS_putI sh_87 fX11_395 dX11_runIt_27 rfl rfl ?_
  refine zA_iconst (nI 0) dX11_runIt_30 ic_0 ?_
  refine zA_istore_3 dX11_runIt_31 rfl ?_
  exact beg W 0 _ gl _ _ (by omega) ⟨rfl, rfl, rfl, rfl, rfl, rfl⟩ (fun v hv => absurd hv (Nat.not_lt_zero _)) (zXg_zs (zXg_zs (zXg_zs (zXg_zs (zXg_zs (zXg_zs (zXg_rf gi) (by omega)) (by omega)) (by omega)) (by omega)) (by omega)) (by omega)) (fun _ _ => rfl)
