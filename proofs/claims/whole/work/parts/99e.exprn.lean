theorem zFrL_of {l : Nat} {A B D : zm_I} (h : zFrL l A B) (h2 : zFrX B D) : zFrL l A D := ⟨fun a x1 x2 => (h2.1 a x1 (by omega)).trans (h.1 a x1 x2), fun a j x1 x2 x3 => (h2.2.1 a j x1 x2 x3).trans (h.2.1 a j x1 x2 x3), fun j x1 => by rw [h2.1 115 (by decide) (by omega), h2.1 116 (by decide) (by omega)]; exact h.2.2.1 j x1, fun j x1 => (h2.2.2 j x1).trans (h.2.2.2 j x1)⟩
theorem zFrL_115 {l : Nat} {A B : zm_I} (v : Int32) (h : zFrX A B) : zFrL l A (zs B 115 (5 + l) v) := ⟨fun a x1 x2 => (zs_nq (by omega)).trans (h.1 a x1 (by omega)), fun a j x1 x2 x3 => by rw [zs_nq (by omega)]; exact h.2.1 a j x1 x2 x3, fun j x1 => ⟨by rw [zs_nj x1]; exact congrFun (h.1 115 (by decide) (by omega)) j, by rw [zs_nq (by decide)]; exact congrFun (h.1 116 (by decide) (by omega)) j⟩, fun j x1 => by rw [zs_nq (by decide)]; exact h.2.2 j x1⟩
theorem fExp_f (l m : Nat) (M : zm_I) : fExp l (m + 1) false M = (if fNx M 50 4 = nI 5 ∧ fNx M 42 4 = 0 then (true, zs (fWw (fNx M) (nI 0)) 47 l (fWw (fNx M) (nI 0) 42 5)) else if fNx M 50 4 = nI 6 ∧ ¬ fNx M 42 4 ≤ 0 then fExp l m false (fCl (fNx M)) else if (fRj (fNx M) (fNx M 50 4)).1 = true then fExp l m true (fRj (fNx M) (fNx M 50 4)).2 else (false, (fRj (fNx M) (fNx M 50 4)).2)) := if_neg Bool.false_ne_true
theorem zFrL_116 {l : Nat} {A B : zm_I} (v : Int32) (h : zFrL l A B) : zFrL l A (zs B 116 (5 + l) v) := ⟨fun a x1 x2 => (zs_nq (by omega)).trans (h.1 a x1 x2), fun a j x1 x2 x3 => by rw [zs_nq (by omega)]; exact h.2.1 a j x1 x2 x3, fun j x1 => ⟨by rw [zs_nq (by decide)]; exact (h.2.2.1 j x1).1, by rw [zs_nj x1]; exact (h.2.2.1 j x1).2⟩, fun j x1 => by rw [zs_nq (by decide)]; exact h.2.2.2 j x1⟩
theorem zPS_116 {M X : zm_I} {l s0 wr kn kb : Nat} {W : List (Nat × Nat)} {S : List Nat} {dn : Nat → Nat} (j : Nat) (v : Int32) (hP : zPS M X l s0 wr kn kb W S dn) : zPS M (zs X 116 j v) l s0 wr kn kb W S dn := by
  have hx : ∀ a, a ≠ 116 → zs X 116 j v a = X a := fun a h => zs_nq h
  have e87 : ∀ k, zs X 116 j v 87 k = X 87 k := fun k => by rw [hx 87 (by decide)]
  generalize zs X 116 j v = X' at hx e87 ⊢
  obtain ⟨⟨a1, a2, a3, a4, a5⟩, ⟨b1, b2, b3⟩, ⟨c1, c2, c3, c4⟩, ⟨d1, d2, d3⟩, e1, e2, ⟨f1, f2⟩, g1, g2, g3, g4⟩ := hP
  refine ⟨⟨a1, (e87 51).trans a2, a3, zWX_cg W (fun j _ => by rw [hx 117 (by decide), hx 118 (by decide)]; exact ⟨rfl, rfl⟩) a4, a5⟩, ⟨b1, (e87 48).trans b2, b3⟩, ⟨c1, (e87 47).trans c2, c3, c4⟩, ⟨(e87 53).trans d1, zHl_cg S (fun j _ => by rw [hx 119 (by decide)]) d2, zTD_cg (fun c _ => ⟨rfl, rfl⟩) (fun i _ _ => by rw [hx 110 (by decide), hx 111 (by decide), hx 112 (by decide), hx 113 (by decide)]; exact ⟨rfl, rfl, rfl, rfl⟩) d3⟩, e1, fun i hi => by rw [hx 114 (by decide)]; exact e2 i hi, ⟨fun p hp h7 => ?_, f2⟩, g1, g2, (e87 55).trans g3, g4⟩
  rw [hx 110 (by decide)]
  exact f1 p hp h7
theorem zEndS {M gi M0 X0 M1 X X2 : zm_I} {n i i1 l m s0 wr wr' kn : Nat} {S' : List Nat} {dn dn1 dn' : Nat → Nat} {pl nx : Nat} {kd wh : Int32} {R : Bool × zm_I} (hL0 : zFrL l gi X0) (hO0 : zOld s0 dn M gi dn M0 X0) (hX : zFrX X0 X) (hO : zOld s0 dn M0 X0 dn1 M1 X) (h46 : M1 46 = M0 46) (hM46 : M0 46 l = nI s0) (h1 : M1 1 = M 1) (h115 : X0 115 (5 + l) = nI s0) (hi1 : i ≤ i1) (hT : zTS n i1 M1 X pl nx kd wh) (hB : zPS (fWw (fNx M1) (nI 0)) X2 l s0 wr' kn kn [] S' dn') (hS : S'.length = 1) (hF : zBdF X X2) (hw : wr ≤ wr') (hsw : s0 ≤ wr) (hO2 : zOld wr dn1 (fNx M1) X dn' (fWw (fNx M1) (nI 0)) X2) (hR : fExp l (m + 1) false M1 = R) (h424 : fNx M1 42 4 = nI 0) (t2 : ¬ fTwo (fNx M1 50 4)) (t3 : fNx M1 50 4 = nI 6 ↔ (kd = nI 3 ∧ wh = nI 41)) (t4 : fNx M1 50 4 = nI 5 ↔ (kd = nI 3 ∧ wh = nI 59)) : zEnd n i l s0 dn M gi R (nI 1) (zs X2 116 (5 + l) (nI (wr' - s0))) := by
  have hFr : zFrL l gi X2 := zFrL_of hL0 (zFrX_tr hX (zFrX_bd hF))
  have hb : ∀ j, j ≠ 51 → j ≠ 48 → j ≠ 53 → zs X2 116 (5 + l) (nI (wr' - s0)) 87 j = X 87 j := fun j c1 c2 c3 => by rw [zs_nq (by decide)]; exact hF.2.1 j c1 c2 c3
  have q33 : zs X2 116 (5 + l) (nI (wr' - s0)) 87 33 = kd := (hb 33 (by decide) (by decide) (by decide)).trans hT.2.2.2.2.1
  have q34 : zs X2 116 (5 + l) (nI (wr' - s0)) 87 34 = wh := (hb 34 (by decide) (by decide) (by decide)).trans hT.2.2.2.2.2
  obtain ⟨n2, n3, n4, n5, n6, n7, n8⟩ := zTS_nx hT
  rw [fExp_f, h424] at hR
  refine ⟨zFrL_116 _ hFr, Or.inr ?_⟩
  rw [q33, q34]
  by_cases h5 : kd = nI 3 ∧ wh = nI 59
  · rw [if_pos ⟨t4.mpr h5, rfl⟩] at hR
    subst hR
    obtain ⟨rt, rfl⟩ : ∃ rt, S' = [rt] := by
      cases S' with
      | nil => exact absurd hS (by decide)
      | cons a S =>
        cases S with
        | nil => exact ⟨a, rfl⟩
        | cons b S => exact absurd (show S.length + 1 + 1 = 1 from hS) (by omega)
    have hkn : wr' = kn := by
      have := hB.2.2.2.2.2.2.2.1
      have e : (0 : Nat) + wr' = kn + 0 := this
      omega
    subst hkn
    have e5 : fWw (fNx M1) (nI 0) 42 5 = nI wr' := hB.2.1.1
    have mq : ∀ a, a ≠ 47 → zs (fWw (fNx M1) (nI 0)) 47 l (fWw (fNx M1) (nI 0) 42 5) a = fWw (fNx M1) (nI 0) a := fun a h => zs_nq h
    have m47 : zs (fWw (fNx M1) (nI 0)) 47 l (fWw (fNx M1) (nI 0) 42 5) 47 l = nI wr' := (zs_eq _ _ _ _).trans e5
    generalize zs (fWw (fNx M1) (nI 0)) 47 l (fWw (fNx M1) (nI 0) 42 5) = N at mq m47 ⊢
    refine Or.inr ⟨rfl, rfl, h5, i1, nx, wr', rt, dn', hi1, n8 (by rw [h5.1]; decide), n5, ⟨?_, ?_, (hb 32 (by decide) (by decide) (by decide)).trans hT.2.2.2.1, ?_⟩, ?_, ?_, ?_, zs_eq _ _ _ _, ?_, m47⟩
    · show N 50 1 = _
      rw [mq 50 (by decide), fWw_50]; exact n6
    · show N 50 3 = _
      rw [mq 50 (by decide), fWw_50]; exact n3
    · show N 1 = _
      rw [mq 1 (by decide), fWw_q _ _ (by decide) (by decide) (by decide), fNx_q M1 (by decide)]; exact h1
    · exact zPS_116 _ _ (zPS_cgM (M := fWw (fNx M1) (nI 0)) (congrFun (mq 42 (by decide)) 3) (congrFun (mq 42 (by decide)) 4) (congrFun (mq 42 (by decide)) 5) (congrFun (mq 43 (by decide)) 8) (mq 44 (by decide)) (mq 45 (by decide)) (mq 49 (by decide)) hB)
    · refine zOld_tr (Nat.le_refl _) hO0 (zOld_tr hsw hO (zOld_tr (Nat.le_refl _) (zOld_tr (Nat.le_refl _) (dn1 := dn1) (M1 := fNx M1) (X1 := X) ⟨fun j _ => ⟨rfl, rfl, rfl, rfl, rfl⟩, fun c _ => ?_, zKf_of (fun j hj => rfl) (fun j hj => by rw [fNx_q M1 (by decide)])⟩ hO2) ⟨fun j _ => ?_, fun c _ => ?_, zKf_of (fun j hj => by rw [zs_nq (by decide)]) (fun j hj => congrFun (mq 42 (by decide)) j)⟩))
      · rw [fNx_q M1 (by decide), fNx_q M1 (by decide)]
        exact ⟨rfl, rfl⟩
      · rw [zs_nq (by decide), zs_nq (by decide), zs_nq (by decide), zs_nq (by decide)]
        exact ⟨rfl, rfl, rfl, rfl, rfl⟩
      · exact ⟨congrFun (mq 44 (by decide)) c, congrFun (mq 45 (by decide)) c⟩
    · rw [zs_nq (by decide), hF.1 115 (by decide) (by decide) (by decide) (by decide) (by decide), hX.1 115 (by decide) (by omega)]
      exact h115
    · show N 46 l = _
      rw [mq 46 (by decide), fWw_q _ _ (by decide) (by decide) (by decide), fNx_q M1 (by decide), h46]; exact hM46
  · rw [if_neg (fun q => h5 (t4.mp q.1)), if_neg (fun q => q.2 (by decide)), show fRj (fNx M1) (fNx M1 50 4) = (false, fFail (fNx M1) (nI 1)) from if_neg t2, if_neg Bool.false_ne_true] at hR
    subst hR
    refine Or.inl ⟨rfl, rfl, h5, rfl, ?_⟩
    show _ = fNx M1 50 2
    rw [n2, hb 35 (by decide) (by decide) (by decide)]
    exact hT.2.2.1
theorem ct_rExpression (g : zm_G) (gi : zm_I) (gl : zm_J) (r : Nat) (M : zm_I) {n i l s0 : Nat} {dn : Nat → Nat} {pl nx : Nat} {kd wh : Int32} (hl : l < 5) (hT : zTS n i M gi pl nx kd wh) (h5 : M 42 5 = nI s0) (h48 : gi 87 48 = nI s0) (h8 : M 43 8 = nI s0) (h47 : gi 87 47 = nI s0) (hs : s0 ≤ 64) (hdn : ∀ j, j < s0 → gi 114 (64 + j) = nI (64 + dn j) ∧ dn j < s0)  : zC_i g yX11_expression mX11_expression 5 [.ref 87, .int (nI l)] zSH gi gl (zRT r) (fun z gi' gl' gr' => zEnd n i l s0 dn M gi (fEx M l) z gi' ∧ gl' = gl ∧ gr' = zRT r) := by
  refine zC_i_of [some (.ref 87), some (.int (nI l)), none] (by decide) rfl rfl (Nat.le_of_ble_eq_true rfl) (fun x => ?_)
  refine zA_aload_0 dX11_expression_0 ?_
  refine zA_iconst (nI 0) dX11_expression_1 ic_0 ?_
  refine zS_putI sh_87 fX11_264 dX11_expression_2 rfl rfl ?_
  refine zA_aload_0 dX11_expression_5 ?_
  refine zA_iconst (nI 0) dX11_expression_6 ic_0 ?_
  refine zS_putI sh_87 fX11_261 dX11_expression_7 rfl rfl ?_
  refine zA_aload_0 dX11_expression_10 ?_
  refine zA_iconst (nI 0) dX11_expression_11 ic_0 ?_
  refine zS_putI sh_87 fX11_295 dX11_expression_12 rfl rfl ?_
  refine zA_aload_0 dX11_expression_15 ?_
  refine zA_iconst (nI 0) dX11_expression_16 ic_0 ?_
  refine zS_putZ sh_87 fX11_298 dX11_expression_17 rfl rfl (by decide) ?_
  refine zA_aload_0 dX11_expression_20 ?_
  refine zA_iconst (nI 1) dX11_expression_21 ic_1 ?_
  refine zS_putZ sh_87 fX11_307 dX11_expression_22 rfl rfl (by decide) ?_
  refine zA_aload_0 dX11_expression_25 ?_
  refine zA_iconst (nI 1) dX11_expression_26 ic_1 ?_
  refine zS_putZ sh_87 fX11_285 dX11_expression_27 rfl rfl (by decide) ?_
  refine zA_aload_0 dX11_expression_30 ?_
  refine zA_getR sh_87 fX11_96 dX11_expression_31 rfl (rt_87_44 _) ?_
  refine zA_iconst (nI 5) dX11_expression_34 ic_5 ?_
  refine zA_iload_1 dX11_expression_35 ?_
  refine zA_iaddN dX11_expression_36 ?_
  refine zA_aload_0 dX11_expression_37 ?_
  refine zA_getI (v := (nI s0)) sh_87 fX11_258 dX11_expression_38 rfl h48 ?_
  refine zS_iast (5 + l) sh_115 dX11_expression_41 rfl (by omega) (by decide) ?_
  have hE0 : zPE n i (zs (zs (zs M 42 3 (nI 0)) 42 4 (nI 0)) 46 l (M 42 5)) ((zs (zs (zs (zs (zs (zs (zs gi 87 51 ((nI 0))) 87 53 ((nI 0))) 87 55 ((nI 0))) 87 56 ((nI 0))) 87 57 ((nI 1))) 87 58 ((nI 1))) 115 (5 + l) ((nI s0)))) l s0 s0 s0 [] [] dn true := by
    refine ⟨⟨⟨rfl, rfl, trivial, trivial, fun p hp => absurd hp (by simp)⟩, ⟨h5, h48, Nat.le_refl _⟩, ⟨h8, h47, hs, Nat.le_refl _⟩, ⟨rfl, trivial, ?_⟩, fun a ha => absurd ha (by simp), fun j hj => hdn j hj, ⟨fun p hp => absurd hp (by simp), trivial⟩, Nat.zero_add _, rfl, rfl, Nat.zero_le _⟩, rfl, ⟨rfl, trivial⟩, rfl, fun _ => rfl, pl, nx, kd, wh, hT⟩
    rw [Nat.sub_self]
    exact ⟨fun _ => [], rfl, rfl, fun j hj => absurd hj (Nat.not_lt_zero _)⟩
  have hL0 : zFrL l gi ((zs (zs (zs (zs (zs (zs (zs gi 87 51 ((nI 0))) 87 53 ((nI 0))) 87 55 ((nI 0))) 87 56 ((nI 0))) 87 57 ((nI 1))) 87 58 ((nI 1))) 115 (5 + l) ((nI s0)))) := zFrL_115 _ (zFrX_tr (zFrX_tr (zFrX_tr (zFrX_tr (zFrX_tr (zFrX_87 _ 51 _ (by omega)) (zFrX_87 _ 53 _ (by omega))) (zFrX_87 _ 55 _ (by omega))) (zFrX_87 _ 56 _ (by omega))) (zFrX_87 _ 57 _ (by omega))) (zFrX_87 _ 58 _ (by omega)))
  have hO0 : zOld s0 dn M gi dn (zs (zs (zs M 42 3 (nI 0)) 42 4 (nI 0)) 46 l (M 42 5)) ((zs (zs (zs (zs (zs (zs (zs gi 87 51 ((nI 0))) 87 53 ((nI 0))) 87 55 ((nI 0))) 87 56 ((nI 0))) 87 57 ((nI 1))) 87 58 ((nI 1))) 115 (5 + l) ((nI s0)))) := ⟨fun _ _ => ⟨rfl, rfl, rfl, rfl, rfl⟩, fun _ _ => ⟨rfl, rfl⟩, zKf_of (fun j hj => by rw [zs_nq (by decide), zs_nj (by omega), zs_nj (by omega), zs_nj (by omega), zs_nj (by omega), zs_nj (by omega), zs_nj (by omega)]) (fun j hj => by rw [zs_nq (by decide), zs_nj (by omega), zs_nj (by omega)])⟩
  have h115 : ((zs (zs (zs (zs (zs (zs (zs gi 87 51 ((nI 0))) 87 53 ((nI 0))) 87 55 ((nI 0))) 87 56 ((nI 0))) 87 57 ((nI 1))) 87 58 ((nI 1))) 115 (5 + l) ((nI s0)))) 115 (5 + l) = nI s0 := zs_eq _ _ _ _
  have hM46 : (zs (zs (zs M 42 3 (nI 0)) 42 4 (nI 0)) 46 l (M 42 5)) 46 l = nI s0 := (zs_eq _ _ _ _).trans h5
  generalize ((zs (zs (zs (zs (zs (zs (zs gi 87 51 ((nI 0))) 87 53 ((nI 0))) 87 55 ((nI 0))) 87 56 ((nI 0))) 87 57 ((nI 1))) 87 58 ((nI 1))) 115 (5 + l) ((nI s0)))) = X0 at hE0 hL0 hO0 h115 ⊢
  generalize hM0 : (zs (zs (zs M 42 3 (nI 0)) 42 4 (nI 0)) 46 l (M 42 5)) = M0 at hE0 hO0 hM46
  have key : ∀ (m : Nat) (R : Bool × zm_I) (i1 : Nat) (M1 X : zm_I) (W : List (Nat × Nat)) (S : List Nat) (wr kn : Nat) (dn1 : Nat → Nat) (v : Bool) (l2 : Option Value), n - i1 < m → i ≤ i1 → zPE n i1 M1 X l s0 wr kn W S dn1 v → zFrX X0 X → zOld s0 dn M0 X0 dn1 M1 X → M1 46 = M0 46 → M1 1 = M 1 → fExp l m v M1 = R → zB_i x g mX11_expression 5 zSH (fun z gi' gl' gr' => zEnd n i l s0 dn M gi R z gi' ∧ gl' = gl ∧ gr' = zRT r) 42 [some (.ref 87), some (.int (nI l)), l2] [] X gl (zRT r) := by
    intro m
    induction m with
    | zero =>
      intro R i1 M1 X W S wr kn dn1 v l2 hm
      exact absurd hm (by omega)
    | succ m ih =>
      intro R i1 M1 X W S wr kn dn1 v l2 hm hi1 hE hX hO h46 h1 hR
      obtain ⟨hP, hS, hc, h57, h58, pl1, nx1, kd1, wh1, hT1⟩ := hE
      obtain ⟨n2, n3, n4, n5, n6, n7, n8⟩ := zTS_nx hT1
      have hsw : s0 ≤ wr := hP.2.1.2.2
      have h33 : X 87 33 = kd1 := hT1.2.2.2.2.1
      have h34 : X 87 34 = wh1 := hT1.2.2.2.2.2
      have h55 : X 87 55 = nI (zOpn W) := hP.2.2.2.2.2.2.2.2.2.1
      cases v with
      | true =>
        have hq : R = (if (fRp (fNx M1) (fNx M1 50 4) (nI l)).1 = true then fExp l m (decide (¬ fNx M1 50 4 = nI 3 ∧ ¬ fNx M1 50 4 = nI 4)) (fRp (fNx M1) (fNx M1 50 4) (nI l)).2 else (false, (fRp (fNx M1) (fNx M1 50 4) (nI l)).2)) := hR.symm.trans (if_pos rfl)
        have hkq : ∀ {a : Nat}, zRq a ∧ a ≠ 50 → (fRp (fNx M1) (fNx M1 50 4) (nI l)).2 a = M1 a := fun h => (fRp_q h.1 _ _ _).trans (fNx_q M1 h.2)
        refine zA_iconst (nI 1) dX11_expression_42 ic_1 ?_
        refine zA_istore_2 dX11_expression_43 rfl ?_
        refine zA_aload_0 dX11_expression_44 ?_
        refine zA_getI (v := (nI 1)) sh_87 fX11_307 dX11_expression_45 rfl h57 ?_
        refine zA_if_eq 69 dX11_expression_48 (by decide) (fun hh => absurd hh (by decide)) (fun _ => ?_)
        refine zA_aload_0 dX11_expression_51 ?_
        refine zA_iload_1 dX11_expression_52 ?_
        refine zA_iconst (nI 1) dX11_expression_53 ic_1 ?_
        refine zA_icmp_leN 61 dX11_expression_54 (by decide) (by omega) (by omega) (fun hl1 => ?_) (fun hl1 => ?_)
        · refine zA_iconst (nI 0) dX11_expression_61 ic_0 ?_
          refine zA_cVi (ct_rValueRead g X gl r M1 hP hS hc h57 (h58 rfl) hT1 rfl rfl hl (nI 0) (⟨fun _ => by omega, fun _ => rfl⟩)) calX11_valueRead stX11_valueRead lX11_313 dX11_expression_62 (by decide) (by simp [Value.category]) rfl (Nat.le_refl _) (Nat.le_refl _) sh_87 rfl (fun zz X1 gl' gr' ⟨hst, e2, e3⟩ => ?_)
          rw [e2, e3]
          clear e2 e3
          rcases hst with ⟨hFr, ⟨b1, hz, b2, b3⟩ | ⟨b1, hz, i2, wr2, kn2, W2, S2, dn2, c1, c2, hE2, hO2⟩⟩
          · rw [hz]
            clear hz
            refine zA_istore_2 dX11_expression_65 rfl ?_
            refine zA_goto 193 dX11_expression_66 (by decide) ?_
            refine zA_iload_2 dX11_expression_193 ?_
            refine zA_if_ne 199 dX11_expression_194 (by decide) (fun hh => absurd hh (by decide)) (fun _ => ?_)
            refine zA_iconst (nI 0) dX11_expression_197 ic_0 ?_
            exact zB_zret rfl dX11_expression_198 (by decide) (⟨⟨zFrL_of hL0 (zFrX_tr hX hFr), Or.inl ⟨by rw [hq, if_neg (by rw [b1]; exact Bool.false_ne_true)], rfl, by rw [hq, if_neg (by rw [b1]; exact Bool.false_ne_true)]; exact b2, by rw [hq, if_neg (by rw [b1]; exact Bool.false_ne_true)]; exact b3⟩⟩, rfl, rfl⟩)
          · rw [hz]
            clear hz
            refine zA_istore_2 dX11_expression_65 rfl ?_
            refine zA_goto 193 dX11_expression_66 (by decide) ?_
            refine zA_iload_2 dX11_expression_193 ?_
            refine zA_if_ne 199 dX11_expression_194 (by decide) (fun _ => ?_) (fun hh => absurd hh (by decide))
            refine zA_goto 42 dX11_expression_199 (by decide) ?_
            obtain ⟨_, _, _, _, hTT⟩ := hE2.2.2.2.2.2
            have hi2 := hTT.1.2.2.2.1
            exact ih R i2 _ _ W2 S2 wr2 kn2 dn2 _ _ (by omega) (by omega) hE2 (zFrX_tr hX hFr) (zOld_tr hsw hO hO2) ((hkq (a := 46) (by unfold zRq; decide)).trans h46) ((hkq (a := 1) (by unfold zRq; decide)).trans h1) (by rw [hq, if_pos b1])
        · refine zA_iconst (nI 1) dX11_expression_57 ic_1 ?_
          refine zA_goto 62 dX11_expression_58 (by decide) ?_
          refine zA_cVi (ct_rValueRead g X gl r M1 hP hS hc h57 (h58 rfl) hT1 rfl rfl hl (nI 1) (⟨fun q => absurd q (by decide), fun q => absurd q (by omega)⟩)) calX11_valueRead stX11_valueRead lX11_313 dX11_expression_62 (by decide) (by simp [Value.category]) rfl (Nat.le_refl _) (Nat.le_refl _) sh_87 rfl (fun zz X1 gl' gr' ⟨hst, e2, e3⟩ => ?_)
          rw [e2, e3]
          clear e2 e3
          rcases hst with ⟨hFr, ⟨b1, hz, b2, b3⟩ | ⟨b1, hz, i2, wr2, kn2, W2, S2, dn2, c1, c2, hE2, hO2⟩⟩
          · rw [hz]
            clear hz
            refine zA_istore_2 dX11_expression_65 rfl ?_
            refine zA_goto 193 dX11_expression_66 (by decide) ?_
            refine zA_iload_2 dX11_expression_193 ?_
            refine zA_if_ne 199 dX11_expression_194 (by decide) (fun hh => absurd hh (by decide)) (fun _ => ?_)
            refine zA_iconst (nI 0) dX11_expression_197 ic_0 ?_
            exact zB_zret rfl dX11_expression_198 (by decide) (⟨⟨zFrL_of hL0 (zFrX_tr hX hFr), Or.inl ⟨by rw [hq, if_neg (by rw [b1]; exact Bool.false_ne_true)], rfl, by rw [hq, if_neg (by rw [b1]; exact Bool.false_ne_true)]; exact b2, by rw [hq, if_neg (by rw [b1]; exact Bool.false_ne_true)]; exact b3⟩⟩, rfl, rfl⟩)
          · rw [hz]
            clear hz
            refine zA_istore_2 dX11_expression_65 rfl ?_
            refine zA_goto 193 dX11_expression_66 (by decide) ?_
            refine zA_iload_2 dX11_expression_193 ?_
            refine zA_if_ne 199 dX11_expression_194 (by decide) (fun _ => ?_) (fun hh => absurd hh (by decide))
            refine zA_goto 42 dX11_expression_199 (by decide) ?_
            obtain ⟨_, _, _, _, hTT⟩ := hE2.2.2.2.2.2
            have hi2 := hTT.1.2.2.2.1
            exact ih R i2 _ _ W2 S2 wr2 kn2 dn2 _ _ (by omega) (by omega) hE2 (zFrX_tr hX hFr) (zOld_tr hsw hO hO2) ((hkq (a := 46) (by unfold zRq; decide)).trans h46) ((hkq (a := 1) (by unfold zRq; decide)).trans h1) (by rw [hq, if_pos b1])
      | false =>
        have h424 : fNx M1 42 4 = nI (zOpn W) := by rw [fNx_q M1 (by decide)]; exact hP.2.2.2.2.2.2.2.2.1
        have ho8 := hP.2.2.2.2.2.2.2.2.2.2
        refine zA_iconst (nI 1) dX11_expression_42 ic_1 ?_
        refine zA_istore_2 dX11_expression_43 rfl ?_
        refine zA_aload_0 dX11_expression_44 ?_
        refine zA_getI (v := (nI 0)) sh_87 fX11_307 dX11_expression_45 rfl h57 ?_
        refine zA_if_eq 69 dX11_expression_48 (by decide) (fun _ => ?_) (fun hh => absurd (by decide) hh)
        refine zA_aload_0 dX11_expression_69 ?_
        rcases zTe_sgn n4 with ⟨k, t1, t2, t3, t4⟩ | ⟨t1, t2, t3, t4⟩
        · obtain ⟨f2, f17, f7, f12, f13, fk7⟩ := zf2 k (zTL_of t1)
          have hk56 : ¬ nI k = nI 5 ∧ ¬ nI k = nI 6 := by
            rcases t1 with rfl | rfl | rfl | rfl | rfl | rfl | rfl | rfl | rfl | rfl | rfl | rfl | rfl <;> decide
          have hq : R = (if (fRj (fNx M1) (nI k)).1 = true then fExp l m true (fRj (fNx M1) (nI k)).2 else (false, (fRj (fNx M1) (nI k)).2)) := by
            rw [← hR, fExp_f, t2, if_neg (fun q => hk56.1 q.1), if_neg (fun q => hk56.2 q.1)]
          have hkq : ∀ {a : Nat}, zRq a ∧ a ≠ 50 → (fRj (fNx M1) (nI k)).2 a = M1 a := fun h => (fRj_q h.1 _ _).trans (fNx_q M1 h.2)
          refine zA_cVi (ct_rSignNow g X gl r) calX11_signNow stX11_signNow lX11_317 dX11_expression_70 (by decide) (by simp [Value.category]) rfl (Nat.le_refl _) (Nat.le_refl _) sh_87 rfl (fun zz gi' gl' gr' ⟨hz, e1, e2, e3⟩ => ?_)
          rw [hz, rSn_at h33 h34, t3, e1, e2, e3]
          clear hz e1 e2 e3
          refine zA_if_lt 88 dX11_expression_73 (by decide) (fun hs => ?_) (fun hs => ?_)
          · exact absurd hs (Int32.not_lt.mpr (nI_ge0 (by omega)))
          · refine zA_aload_0 dX11_expression_76 ?_
            refine zA_aload_0 dX11_expression_77 ?_
            refine zA_cVi (ct_rSignNow g X gl r) calX11_signNow stX11_signNow lX11_317 dX11_expression_78 (by decide) (by simp [Value.category]) rfl (Nat.le_refl _) (Nat.le_refl _) sh_87 rfl (fun zz gi' gl' gr' ⟨hz, e1, e2, e3⟩ => ?_)
            rw [hz, rSn_at h33 h34, t3, e1, e2, e3]
            clear hz e1 e2 e3
            refine zA_cVi (ct_rJoins g X gl r M1 hP hS hc hT1 t4 t1) calX11_joins stX11_joins lX11_320 dX11_expression_81 (by decide) (by simp [Value.category]) rfl (Nat.le_refl _) (Nat.le_refl _) sh_87 rfl (fun zz X1 gl' gr' ⟨hst, e2, e3⟩ => ?_)
            rw [e2, e3]
            clear e2 e3
            rcases hst with ⟨hFr, ⟨b1, hz, b2, b3⟩ | ⟨b1, hz, i2, wr2, kn2, W2, S2, dn2, c1, c2, hE2, hO2⟩⟩
            · rw [hz]
              clear hz
              refine zA_istore_2 dX11_expression_84 rfl ?_
              refine zA_goto 193 dX11_expression_85 (by decide) ?_
              refine zA_iload_2 dX11_expression_193 ?_
              refine zA_if_ne 199 dX11_expression_194 (by decide) (fun hh => absurd hh (by decide)) (fun _ => ?_)
              refine zA_iconst (nI 0) dX11_expression_197 ic_0 ?_
              exact zB_zret rfl dX11_expression_198 (by decide) (⟨⟨zFrL_of hL0 (zFrX_tr hX hFr), Or.inl ⟨by rw [hq, if_neg (by rw [b1]; exact Bool.false_ne_true)], rfl, by rw [hq, if_neg (by rw [b1]; exact Bool.false_ne_true)]; exact b2, by rw [hq, if_neg (by rw [b1]; exact Bool.false_ne_true)]; exact b3⟩⟩, rfl, rfl⟩)
            · rw [hz]
              clear hz
              refine zA_istore_2 dX11_expression_84 rfl ?_
              refine zA_goto 193 dX11_expression_85 (by decide) ?_
              refine zA_iload_2 dX11_expression_193 ?_
              refine zA_if_ne 199 dX11_expression_194 (by decide) (fun _ => ?_) (fun hh => absurd hh (by decide))
              refine zA_goto 42 dX11_expression_199 (by decide) ?_
              obtain ⟨_, _, _, _, hTT⟩ := hE2.2.2.2.2.2
              have hi2 := hTT.1.2.2.2.1
              exact ih R i2 _ _ W2 S2 wr2 kn2 dn2 _ _ (by omega) (by omega) hE2 (zFrX_tr hX hFr) (zOld_tr hsw hO hO2) ((hkq (a := 46) (by unfold zRq; decide)).trans h46) ((hkq (a := 1) (by unfold zRq; decide)).trans h1) (by rw [hq, if_pos b1])
        · refine zA_cVi (ct_rSignNow g X gl r) calX11_signNow stX11_signNow lX11_317 dX11_expression_70 (by decide) (by simp [Value.category]) rfl (Nat.le_refl _) (Nat.le_refl _) sh_87 rfl (fun zz gi' gl' gr' ⟨hz, e1, e2, e3⟩ => ?_)
          rw [hz, rSn_at h33 h34, t1, e1, e2, e3]
          clear hz e1 e2 e3
          refine zA_if_lt 88 dX11_expression_73 (by decide) (fun _ => ?_) (fun hh => absurd (by decide) hh)
          refine zA_aload_0 dX11_expression_88 ?_
          refine zA_getI (v := (nI (zOpn W))) sh_87 fX11_295 dX11_expression_89 rfl h55 ?_
          refine zA_if_le 149 dX11_expression_92 (by decide) (fun ho => ?_) (fun ho => ?_)
          · refine zA_aload_0 dX11_expression_149 ?_
            refine zA_getI (v := (nI (zOpn W))) sh_87 fX11_295 dX11_expression_150 rfl h55 ?_
            refine zA_if_le 165 dX11_expression_153 (by decide) (fun ho2 => ?_) (fun ho2 => ?_)
            · refine zA_aload_0 dX11_expression_165 ?_
              refine zA_iconst (nI 1) dX11_expression_166 ic_1 ?_
              refine zA_cVv (ct_rBind g X gl r (fNx M1) (zPS_nx hP) hS (nI 0) (nI 1) (zSt_0 W hP.1.2.2.2.2)) calX11_bind stX11_bind lX11_310 dX11_expression_167 (by decide) (by simp [Value.category]) rfl (Nat.le_refl _) (Nat.le_refl _) sh_87 rfl (fun X2 gl' gr' ⟨Wp, W', S', wr', dn', a1, a2, a3, hB, hS2, hF, hw, hO2, e2, e3⟩ => ?_)
              rw [e2, e3]
              clear e2 e3
              have hZ : zOpn W = 0 := by
                cases hz : zOpn W with
                | zero => rfl
                | succ q => rw [hz] at ho; exact absurd ho (zww_pos (by omega))
              rcases (zLeft hP.1.2.2.2.2 a1 a2 a3).2 with ⟨_, rfl⟩ | ⟨b, W2, _, q⟩
              · skip
                rw [hZ] at h424
                have g48 : X2 87 48 = nI wr' := hB.2.1.2.1
                have g115 : X2 115 (5 + l) = nI s0 := by rw [hF.1 115 (by decide) (by decide) (by decide) (by decide) (by decide), hX.1 115 (by decide) (by omega)]; exact h115
                have hw64 : wr' ≤ 64 := by
                  have := hB.2.2.2.2.2.2.2.1
                  have e : (0 : Nat) + wr' = kn + 0 := this
                  have := hP.2.2.1.2.2.1
                  omega
                have hend := zEndS hL0 hO0 hX hO h46 hM46 h1 h115 hi1 hT1 hB hS2 hF hw hsw hO2 hR h424 t2 t3 t4
                refine zA_aload_0 dX11_expression_170 ?_
                refine zA_getR sh_87 fX11_99 dX11_expression_171 rfl (rt_87_45 _) ?_
                refine zA_iconst (nI 5) dX11_expression_174 ic_5 ?_
                refine zA_iload_1 dX11_expression_175 ?_
                refine zA_iaddN dX11_expression_176 ?_
                refine zA_aload_0 dX11_expression_177 ?_
                refine zA_getI (v := (nI wr')) sh_87 fX11_258 dX11_expression_178 rfl g48 ?_
                refine zA_aload_0 dX11_expression_181 ?_
                refine zA_getR sh_87 fX11_96 dX11_expression_182 rfl (rt_87_44 _) ?_
                refine zA_iconst (nI 5) dX11_expression_185 ic_5 ?_
                refine zA_iload_1 dX11_expression_186 ?_
                refine zA_iaddN dX11_expression_187 ?_
                refine zA_iald (v := (nI s0)) (5 + l) sh_115 dX11_expression_188 rfl (by omega) (by decide) g115 ?_
                refine zA_isubN dX11_expression_189 (by omega) ?_
                refine zS_iast (5 + l) sh_116 dX11_expression_190 rfl (by omega) (by decide) ?_
                refine zA_iconst (nI 1) dX11_expression_191 ic_1 ?_
                exact zB_zret rfl dX11_expression_192 (by decide) (⟨hend, rfl, rfl⟩)
              · exact absurd q (by omega)
            · exact absurd ho ho2
          · refine zA_aload_0 dX11_expression_95 ?_
            refine zA_bipush (nI 41) dX11_expression_96 bc_41 ?_
            refine zA_cVi (ct_rIsSign g X gl r (nI 41)) calX11_isSign stX11_isSign lX11_292 dX11_expression_98 (by decide) (by simp [Value.category]) rfl (Nat.le_refl _) (Nat.le_refl _) sh_87 rfl (fun zz gi' gl' gr' ⟨hz, e1, e2, e3⟩ => ?_)
            rw [hz, e1, e2, e3]
            clear hz e1 e2 e3
            refine zA_if_eqB 149 dX11_expression_101 (by decide) (fun h41 => ?_) (fun h41 => ?_)
            · refine zA_aload_0 dX11_expression_149 ?_
              refine zA_getI (v := (nI (zOpn W))) sh_87 fX11_295 dX11_expression_150 rfl h55 ?_
              refine zA_if_le 165 dX11_expression_153 (by decide) (fun ho2 => ?_) (fun ho2 => ?_)
              · exact absurd ho2 ho
              · have hq : R = (false, fFail (fNx M1) (nI 1)) := by
                  rw [← hR, fExp_f, h424, if_neg (fun q => ho (by rw [q.2]; decide)), if_neg (fun q => h41 (by rw [h33, h34]; exact t3.mp q.1)), show fRj (fNx M1) (fNx M1 50 4) = (false, fFail (fNx M1) (nI 1)) from if_neg t2]
                  exact if_neg Bool.false_ne_true
                refine zA_aload_0 dX11_expression_156 ?_
                refine zA_iconst (nI 1) dX11_expression_157 ic_1 ?_
                refine zA_cVi (ct_rWrong g X gl r (nI 1)) calX11_wrong stX11_wrong lX11_255 dX11_expression_158 (by decide) (by simp [Value.category]) rfl (Nat.le_refl _) (Nat.le_refl _) sh_87 rfl (fun zz gi' gl' gr' ⟨hz, e1, e2, e3⟩ => ?_)
                rw [hz, e1, e2, e3]
                clear hz e1 e2 e3
                refine zA_istore_2 dX11_expression_161 rfl ?_
                refine zA_goto 193 dX11_expression_162 (by decide) ?_
                refine zA_iload_2 dX11_expression_193 ?_
                refine zA_if_ne 199 dX11_expression_194 (by decide) (fun hh => absurd hh (by decide)) (fun _ => ?_)
                refine zA_iconst (nI 0) dX11_expression_197 ic_0 ?_
                exact zB_zret rfl dX11_expression_198 (by decide) (⟨⟨zFrL_of hL0 (zFrX_tr hX (zFrX_wr X _)), Or.inl ⟨by rw [hq], rfl, by rw [hq]; rfl, by rw [hq]; show X 87 35 = fNx M1 50 2; rw [n2]; exact hT1.2.2.1⟩⟩, rfl, rfl⟩)
            · have hk6 : fNx M1 50 4 = nI 6 := t3.mpr (by rw [← h33, ← h34]; exact h41)
              have hkd1 : ¬ kd1 = nI 0 := by rw [← h33, h41.1]; decide
              have hq : R = fExp l m false (fCl (fNx M1)) := by
                rw [← hR, fExp_f, h424, if_neg (fun q => ho (by rw [q.2]; decide)), if_pos ⟨hk6, ho⟩]
              refine zA_aload_0 dX11_expression_104 ?_
              refine zA_iconst (nI 1) dX11_expression_105 ic_1 ?_
              refine zA_cVv (ct_rBind g X gl r (fNx M1) (zPS_nx hP) hS (nI 0) (nI 1) (zSt_0 W hP.1.2.2.2.2)) calX11_bind stX11_bind lX11_310 dX11_expression_106 (by decide) (by simp [Value.category]) rfl (Nat.le_refl _) (Nat.le_refl _) sh_87 rfl (fun X2 gl' gr' ⟨Wp, W', S', wr', dn', a1, a2, a3, hB, hS2, hF, hw, hO2, e2, e3⟩ => ?_)
              rw [e2, e3]
              clear e2 e3
              rcases (zLeft hP.1.2.2.2.2 a1 a2 a3).2 with ⟨q, _⟩ | ⟨b, W2, rfl, ho2⟩
              · exact absurd (by rw [q]; decide) ho
              have g51 : X2 87 51 = nI (W2.length + 1) := hB.1.2.1
              have g55 : X2 87 55 = nI (zOpn W2 + 1) := hB.2.2.2.2.2.2.2.2.2.1
              have hl3 : W2.length + 1 ≤ 72 := (zPS_len hB).1
              have e120 : X2 120 = X 120 := hF.1 120 (by decide) (by decide) (by decide) (by decide) (by decide)
              refine zA_aload_0 dX11_expression_109 ?_
              refine zA_dup dX11_expression_110 rfl ?_
              refine zA_getI (v := (nI (W2.length + 1))) sh_87 fX11_264 dX11_expression_111 rfl g51 ?_
              refine zA_iconst (nI 1) dX11_expression_114 ic_1 ?_
              refine zA_isubN dX11_expression_115 (by omega) ?_
              rw [show W2.length + 1 - 1 = W2.length by omega]
              refine zS_putI sh_87 fX11_264 dX11_expression_116 rfl rfl ?_
              refine zA_aload_0 dX11_expression_119 ?_
              refine zA_dup dX11_expression_120 rfl ?_
              refine zA_getI (v := (nI (zOpn W2 + 1))) sh_87 fX11_295 dX11_expression_121 rfl g55 ?_
              refine zA_iconst (nI 1) dX11_expression_124 ic_1 ?_
              refine zA_isubN dX11_expression_125 (by omega) ?_
              rw [show zOpn W2 + 1 - 1 = zOpn W2 by omega]
              refine zS_putI sh_87 fX11_295 dX11_expression_126 rfl rfl ?_
              refine zA_aload_0 dX11_expression_129 ?_
              refine zA_aload_0 dX11_expression_130 ?_
              refine zA_getR sh_87 fX11_111 dX11_expression_131 rfl (rt_87_54 _) ?_
              refine zA_aload_0 dX11_expression_134 ?_
              refine zA_getI (v := (nI (zOpn W2))) sh_87 fX11_295 dX11_expression_135 rfl rfl ?_
              refine zA_zald (v := (X2 120 (zOpn W2))) (zOpn W2) sh_120 dX11_expression_138 rfl (by omega) (by decide) rfl ?_
              refine zS_putZ sh_87 fX11_298 dX11_expression_139 rfl rfl (by rw [e120, (zCo_ap (X := X) Wp ((7, b) :: W2) (by rw [← a1]; exact hc.2)).1 rfl]; unfold zb; split; exact Or.inr rfl; exact Or.inl rfl) ?_
              refine zA_aload_0 dX11_expression_142 ?_
              refine zA_cVv (ct_rTake g ((zs (zs (zs X2 87 51 ((nI W2.length))) 87 55 ((nI (zOpn W2)))) 87 56 ((X2 120 (zOpn W2))))) gl r (fun j hj => (congrFun (hF.1 106 (by decide) (by decide) (by decide) (by decide) (by decide)) j).trans (hT1.1.2.2.2.2.2.2 j hj)) ((hF.2.1 31 (by decide) (by decide) (by decide)).trans hT1.1.2.2.2.2.1) hT1.1.2.1 ((hF.2.1 32 (by decide) (by decide) (by decide)).trans hT1.2.2.2.1) n5) calX11_take stX11_take lX11_289 dX11_expression_143 (by decide) (by simp [Value.category]) rfl (Nat.le_refl _) (Nat.le_refl _) sh_87 rfl (fun gi' gl' gr' ⟨pl2, nx2, kd2, wh2, ht, e1, e2, e3⟩ => ?_)
              rw [e1, e2, e3]
              clear e1 e2 e3
              refine zA_goto 193 dX11_expression_146 (by decide) ?_
              refine zA_iload_2 dX11_expression_193 ?_
              refine zA_if_ne 199 dX11_expression_194 (by decide) (fun _ => ?_) (fun hh => absurd hh (by decide))
              refine zA_goto 42 dX11_expression_199 (by decide) ?_
              have hst := zCloseS (dn := dn1) (wr := wr) hc.2 h57 hT1 hkd1 a1 hB hS2 hF hw hO2 rfl ht
              rcases hst with ⟨hFr, ⟨b1, _⟩ | ⟨b1, hz, i2, wr2, kn2, W3, S2, dn2, c1, c2, hE2, hO3⟩⟩
              · exact absurd b1.symm Bool.false_ne_true
              obtain ⟨_, _, _, _, hTT⟩ := hE2.2.2.2.2.2
              have hi2 := hTT.1.2.2.2.1
              have q46 : fCl (fNx M1) 46 = M0 46 := (fCl_q (a := 46) (by unfold zRq; decide) (fNx M1)).trans ((fNx_q M1 (a := 46) (by decide)).trans h46)
              have q1 : fCl (fNx M1) 1 = M 1 := (fCl_q (a := 1) (by unfold zRq; decide) (fNx M1)).trans ((fNx_q M1 (a := 1) (by decide)).trans h1)
              have hO4 := zOld_tr hsw hO hO3
              generalize fCl (fNx M1) = Z at *
              exact ih R i2 Z _ W3 S2 wr2 kn2 dn2 _ _ (by omega) (by omega) hE2 (zFrX_tr hX hFr) hO4 q46 q1 hq.symm
  exact key 501 (fEx M l) i M0 X0 [] [] s0 s0 dn true _ (by have := hT.1.2.1; omega) (Nat.le_refl _) hE0 (zFrX_rf _) (zOld_rf _ _ _ _) rfl (by rw [← hM0]; rfl) (by rw [← hM0]; rfl)
