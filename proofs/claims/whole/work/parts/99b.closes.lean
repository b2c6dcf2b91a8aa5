/-- the bracket is closed -/
theorem zCloseS {M X X2 X3 : zm_I} {n i l s0 wr wr' kn b : Nat} {W Wp W2 : List (Nat × Nat)} {S' : List Nat} {dn dn' : Nat → Nat} {pl nx pl2 nx2 : Nat} {kd wh w0 kd2 wh2 : Int32} (hc : zCo X W) (h57 : X 87 57 = nI 0) (hT : zTS n i M X pl nx kd wh) (hkd : ¬ kd = nI 0) (a1 : W = Wp ++ (7, b) :: W2)
    (hB : zPS (fWw (fNx M) (nI 0)) X2 l s0 wr' kn kn ((7, b) :: W2) S' dn') (hS : S'.length = zTws ((7, b) :: W2) + 1) (hF : zBdF X X2) (hw : wr ≤ wr') (hO : zOld wr dn (fNx M) X dn' (fWw (fNx M) (nI 0)) X2)
    (h3 : X3 = zs (zs (zs X2 87 51 (nI W2.length)) 87 55 (nI (zOpn W2))) 87 56 (X2 120 (zOpn W2))) (ht : rTkP (X3 88) n nx w0 pl2 nx2 kd2 wh2) :
    zStp n i l s0 wr dn M X (true, fCl (fNx M)) false (nI 1) (rTk X3 (nI pl2) (nI nx2) kd2 wh2) := by
  have hl := zPS_len hB
  have hl2 : W2.length + 1 ≤ 72 := hl.1
  have h423 : fWw (fNx M) (nI 0) 42 3 = nI (W2.length + 1) := hB.1.1
  have h424 : fWw (fNx M) (nI 0) 42 4 = nI (zOpn W2 + 1) := hB.2.2.2.2.2.2.2.2.1
  have hR : fCl (fNx M) = zs (zs (fWw (fNx M) (nI 0)) 42 4 (nI (zOpn W2))) 42 3 (nI W2.length) := by
    unfold fCl fClM
    rw [h423, h424, if_neg (zww_pos hl2), pk_sub (by omega), pk_sub (by omega), Nat.add_sub_cancel, Nat.add_sub_cancel]
  have hCl := zPS_close hB
  have hco : X 120 (zOpn W2) = zb (zHc W2 = true) := (zCo_ap Wp ((7, b) :: W2) (by rw [← a1]; exact hc)).1 rfl
  have e120 : X2 120 = X 120 := hF.1 120 (by decide) (by decide) (by decide) (by decide) (by decide)
  have hx : ∀ a, a ≠ 87 → rTk X3 (nI pl2) (nI nx2) kd2 wh2 a = X2 a := fun a ha => by rw [rTk_nq _ _ _ _ _ ha, h3, zs_nq ha, zs_nq ha, zs_nq ha]
  have hj : ∀ j, 35 < j → j ≠ 56 → rTk X3 (nI pl2) (nI nx2) kd2 wh2 87 j = zs (zs X2 87 51 (nI W2.length)) 87 55 (nI (zOpn W2)) 87 j := fun j hj h => by rw [rTk_j _ _ _ _ _ (by omega) (by omega) (by omega) (by omega), h3, zs_nj h]
  have hFr : zFrX X X3 := by
    rw [h3]
    exact zFrX_tr (zFrX_tr (zFrX_tr (zFrX_bd hF) (zFrX_87 _ 51 _ (by omega))) (zFrX_87 _ 55 _ (by omega))) (zFrX_87 _ 56 _ (by omega))
  refine ⟨zFrX_tr hFr (zFrX_tk X3 _ _ _ _), Or.inr ⟨rfl, rfl, nx, wr', kn, W2, S', dn', (zTS_nx hT).2.2.2.2.2.2 hkd, hw, ⟨by
    show zPS (fCl (fNx M)) _ _ _ _ _ _ _ _ _
    rw [hR]
    exact zPS_cgX (hj 51 (by decide) (by decide)) (hj 48 (by decide) (by decide)) (hj 47 (by decide) (by decide)) (hj 53 (by decide) (by decide)) (hj 55 (by decide) (by decide)) (fun a h1 h2 => by rw [hx a (by omega), zs_nq (by omega), zs_nq (by omega)]) hCl, hS, ⟨?_, ?_⟩, ?_, fun h => absurd h Bool.false_ne_true, pl2, nx2, kd2, wh2, ?_⟩, ?_⟩⟩
  · rw [rTk_j _ _ _ _ _ (by omega) (by omega) (by omega) (by omega), h3, zs_eq, e120]; exact hco
  · exact zCo_cg W2 (fun j _ => by rw [hx 120 (by decide), e120]) (zCo_ap Wp ((7, b) :: W2) (by rw [← a1]; exact hc)).2
  · rw [hj 57 (by decide) (by decide), zs_nj (by decide), zs_nj (by decide), hF.2.1 57 (by decide) (by decide) (by decide)]; exact h57
  · show zTS n nx (fCl (fNx M)) _ _ _ _ _
    rw [hR]
    refine zTS_take (X2 := X3) hT ?_ ?_ (hFr.1 88 (by decide) (by omega)) (hFr.1 106 (by decide) (by omega)) (hFr.2.2 31 (by omega)) ht
    · rw [zs_nq (by decide), zs_nq (by decide), fWw_50]
    · rw [zs_nq (by decide), zs_nq (by decide), fWw_q _ _ (by decide) (by decide) (by decide), fNx_q M (by decide)]
  · show zOld wr dn M X dn' (fCl (fNx M)) _
    rw [hR]
    refine zOld_tr (Nat.le_refl _) (zOld_tr (Nat.le_refl _) (dn1 := dn) (M1 := fNx M) (X1 := X) ⟨fun j _ => ⟨rfl, rfl, rfl, rfl, rfl⟩, fun c _ => ?_, zKf_of (fun j hj => rfl) (fun j hj => by rw [fNx_q M (by decide)])⟩ hO) ⟨fun j _ => ?_, fun c _ => ?_, zKf_of (fun j hj => by rw [rTk_j _ _ _ _ _ (by omega) (by omega) (by omega) (by omega), h3, zs_nj (by omega), zs_nj (by omega), zs_nj (by omega)]) (fun j hj => by rw [zs_nj (by omega), zs_nj (by omega)])⟩
    · rw [fNx_q M (by decide), fNx_q M (by decide)]
      exact ⟨rfl, rfl⟩
    · rw [hx 110 (by decide), hx 111 (by decide), hx 112 (by decide), hx 113 (by decide)]
      exact ⟨rfl, rfl, rfl, rfl, rfl⟩
    · rw [zs_nq (by decide), zs_nq (by decide), zs_nq (by decide), zs_nq (by decide)]
      exact ⟨rfl, rfl⟩
