/-! clear -/
theorem zClr {gi X0 : zm_I} {v : Int32} {W Pn E : Nat} (hE : E ≤ 24) (hn : zEn 27 W Pn E gi) (h99 : ∀ e, e < E → gi 99 (4 * e) = gi 28 e ∧ gi 99 (4 * e + 1) = gi 29 e ∧ gi 99 (4 * e + 2) = gi 30 e ∧ gi 99 (4 * e + 3) = gi 31 e) (hX : X0 99 = gi 99) (h18 : X0 87 18 = nI 0) : ∀ i, i ≤ E → ∃ K, K ≤ i ∧ fTakeLA gi v i 27 8 = nI K ∧ zit (rClrS v) X0 i 87 18 = nI K ∧ (∀ e, e < K → zit (rClrS v) X0 i 99 (4 * e) = fTakeLA gi v i 28 e ∧ zit (rClrS v) X0 i 99 (4 * e + 1) = fTakeLA gi v i 29 e ∧ zit (rClrS v) X0 i 99 (4 * e + 2) = fTakeLA gi v i 30 e ∧ zit (rClrS v) X0 i 99 (4 * e + 3) = fTakeLA gi v i 31 e) ∧ (∀ j, 4 * i ≤ j → zit (rClrS v) X0 i 99 j = gi 99 j) ∧ ∀ a j, a ≠ 99 → (a ≠ 87 ∨ j ≠ 18) → zit (rClrS v) X0 i a j = X0 a j
  | 0, _ => ⟨0, Nat.le_refl _, by show fTake0A gi 27 8 = _; unfold fTake0A; rw [zm_une (by decide), zs_eq], h18, fun e he => absurd he (Nat.not_lt_zero e), fun j _ => congrFun hX j, fun _ _ _ _ => rfl⟩
  | i + 1, hi => by
    obtain ⟨K, k1, k2, k3, k4, k5, k6⟩ := zClr hE hn h99 hX h18 i (by omega)
    obtain ⟨K2, _, _, hf⟩ := fTakeLA_inv gi v i (by omega)
    obtain ⟨n1, n2, n3, n4⟩ := hn i (by omega)
    have m28 := hf 28 i (Nat.le_refl _) (by decide) (by decide)
    have m29 := hf 29 i (Nat.le_refl _) (by decide) (by decide)
    have m30 := hf 30 i (Nat.le_refl _) (by decide) (by decide)
    have m31 := hf 31 i (Nat.le_refl _) (by decide) (by decide)
    obtain ⟨g0, g1, g2, g3⟩ := h99 i (by omega)
    have x0 := (k5 (4 * i) (by omega)).trans g0
    have x1 := (k5 (4 * i + 1) (by omega)).trans g1
    have x2 := (k5 (4 * i + 2) (by omega)).trans g2
    have x3 := (k5 (4 * i + 3) (by omega)).trans g3
    show ∃ K, K ≤ i + 1 ∧ fTakeSA gi v (fTakeLA gi v i) i 27 8 = nI K ∧ rClrS v (zit (rClrS v) X0 i) i 87 18 = nI K ∧ (∀ e, e < K → rClrS v (zit (rClrS v) X0 i) i 99 (4 * e) = fTakeSA gi v (fTakeLA gi v i) i 28 e ∧ rClrS v (zit (rClrS v) X0 i) i 99 (4 * e + 1) = fTakeSA gi v (fTakeLA gi v i) i 29 e ∧ rClrS v (zit (rClrS v) X0 i) i 99 (4 * e + 2) = fTakeSA gi v (fTakeLA gi v i) i 30 e ∧ rClrS v (zit (rClrS v) X0 i) i 99 (4 * e + 3) = fTakeSA gi v (fTakeLA gi v i) i 31 e) ∧ (∀ j, 4 * (i + 1) ≤ j → rClrS v (zit (rClrS v) X0 i) i 99 j = gi 99 j) ∧ ∀ a j, a ≠ 99 → (a ≠ 87 ∨ j ≠ 18) → rClrS v (zit (rClrS v) X0 i) i a j = X0 a j
    generalize fTakeLA gi v i = C at k2 k4 m28 m29 m30 m31 ⊢
    generalize zit (rClrS v) X0 i = N at k3 k4 k5 k6 x0 x1 x2 x3 ⊢
    unfold fTakeSA rClrS
    rw [m29, x1]
    by_cases c : gi 29 i = v
    · rw [if_pos c, if_pos c]
      exact ⟨K, by omega, k2, k3, k4, fun j hj => k5 j (by omega), k6⟩
    · rw [if_neg c, if_neg c, k2, k3, zi_nI (by omega), m28, m30, m31, x0, x2, x3]
      have y28 : nI (zi (gi 28 i)) = gi 28 i := n1.1.symm
      have y29 : nI (zi (gi 29 i)) = gi 29 i := n2.1.symm
      refine ⟨K + 1, by omega, fAddEA_8 _ _ _ _ _ _, zs_eq _ _ _ _, fun e he => ?_, fun j hj => ?_, fun a j h1 h2 => ?_⟩
      · by_cases q : e = K
        · subst q
          have c28 : fAddEA C e (zi (gi 28 i)) (zi (gi 29 i)) (gi 30 i) (gi 31 i) 28 e = gi 28 i := by unfold fAddEA; rw [zs_no (by omega), zs_no (by omega), zs_no (by omega), zs_no (by omega), zs_no (by omega), zs_eq, y28]
          have c29 : fAddEA C e (zi (gi 28 i)) (zi (gi 29 i)) (gi 30 i) (gi 31 i) 29 e = gi 29 i := by unfold fAddEA; rw [zs_no (by omega), zs_no (by omega), zs_no (by omega), zs_no (by omega), zs_eq, y29]
          have c30 : fAddEA C e (zi (gi 28 i)) (zi (gi 29 i)) (gi 30 i) (gi 31 i) 30 e = gi 30 i := by unfold fAddEA; rw [zs_no (by omega), zs_no (by omega), zs_no (by omega), zs_eq]
          have c31 : fAddEA C e (zi (gi 28 i)) (zi (gi 29 i)) (gi 30 i) (gi 31 i) 31 e = gi 31 i := by unfold fAddEA; rw [zs_no (by omega), zs_no (by omega), zs_eq]
          rw [c28, c29, c30, c31]
          unfold rSets
          refine ⟨?_, ?_, ?_, ?_⟩ <;> (repeat (first | rw [zs_no (by omega)] | rw [zs_eq]))
        · rw [fAddEA_far C (by decide) (by decide) q, fAddEA_far C (by decide) (by decide) q, fAddEA_far C (by decide) (by decide) q, fAddEA_far C (by decide) (by decide) q]
          obtain ⟨r0, r1, r2, r3⟩ := k4 e (by omega)
          unfold rSets
          rw [← r0, ← r1, ← r2, ← r3]
          refine ⟨?_, ?_, ?_, ?_⟩ <;> (repeat rw [zs_no (by omega)])
      · unfold rSets
        rw [zs_no (by omega), zs_no (by omega), zs_no (by omega), zs_no (by omega), zs_no (by omega)]
        exact k5 j (by omega)
      · unfold rSets
        rw [zs_no (by omega), zs_no (by omega), zs_no (by omega), zs_no (by omega), zs_no (by omega)]
        exact k6 a j h1 h2
theorem nI_ij {a b : Nat} (ha : a < 2 ^ 31) (hb : b < 2 ^ 31) (h : nI a = nI b) : a = b := by rw [← zi_nI ha, ← zi_nI hb, h]
theorem pr_clear (g : zm_G) (gi : zm_I) (gl : zm_J) (r : Nat) (hI : zIv gi) (a : Int32) : zPr g yX10_clear mX10_clear 3 yX11_clear mX11_clear 1 [.int a] gi gl r := by
  obtain ⟨V, W, Pn, E, K, Rd, Ps, T, Tp, h1, h2, h3, h4, h5, h6, h7, h8, h9, h10, h11, h12, h13⟩ := id hI
  have hH := zIv_RH h1 h2 h3 h4 h5 h6 h7 h8
  have hW := h3.2.1
  have hE := h6.2.1
  refine ⟨_, ct_clear g gi gl r hH.1 h6.2.1 a, ?_⟩
  rintro z gi' gl' gr' (⟨o1, hz, e1, e2, e3⟩ | ⟨o1, o2, hz, e1, e2, e3⟩ | ⟨o1, o2, hz, e1, e2, e3⟩)
  · subst e2
    have hq : ∀ a, a ≠ 27 → a ≠ 35 → gi' a = gi a := fun a q1 q2 => by rw [e1, zs_nq q1, fCutA_nq _ _ _ q1 q2]
    refine ⟨r, e3, _, ct_rClear g gi' gl' r (W := W) (by rw [hq 87 (by decide) (by decide)]; exact h3.2.2.1) h3.2.1 (E := E) (by rw [hq 87 (by decide) (by decide)]; exact h6.2.2.1) h6.2.1 a, ?_⟩
    rintro z2 gi2 gl2 gr2 (⟨c1, hz2, f1, f2, f3⟩ | ⟨c1, c2, hz2, f1, f2, f3⟩ | ⟨c1, c2, hz2, f1, f2, f3⟩)
    · refine ⟨hz2.trans hz.symm, ?_, r, f3⟩
      have eq : ∀ a j, (a ≠ 27 ∨ (j ≠ 8 ∧ j ≠ 9)) ∧ a ≠ 35 ∧ (a ≠ 87 ∨ (j ≠ 2 ∧ j ≠ 18 ∧ j ≠ 20)) → gi2 a j = gi a j := fun a j h => by
        rw [f1, zs_no (by omega), zs_no (by omega), zs_no (by omega)]
        by_cases q : a = 27
        · subst q; rw [e1, zs_nj (by omega), fCutA_9 _ _ _ (by omega)]
        · rw [hq a q (by omega)]
      refine ⟨V, W, Pn, 0, 0, Rd, Ps, T, Tp, zI1_cg (fun a j hR => eq a j (by unfold zR1 at hR; omega)) h1, zI2_cg (fun a j hR => eq a j (by unfold zR2 at hR; omega)) h2, zI3_cg (fun a j hR => eq a j (by unfold zR3 at hR; omega)) h3, zI4_cg (fun a j hR => eq a j (by unfold zR4 at hR; omega)) h4, zI5_cg (fun a j hR => eq a j (by unfold zR5 at hR; omega)) h5, ⟨?_, by decide, ?_, fun e he => absurd he (Nat.not_lt_zero e), fun e he => absurd he (Nat.not_lt_zero e), ?_⟩, ⟨?_, by decide, ?_, fun e he => absurd he (Nat.not_lt_zero e), fun e he => absurd he (Nat.not_lt_zero e)⟩, zI8_cg (fun a j hR => eq a j (by unfold zR8 at hR; omega)) h8, zI9_cg (fun a j hR => eq a j (by unfold zR9 at hR; omega)) h9, zI10_cg (fun a j hR => eq a j (by unfold zR10 at hR; omega)) h10, zI11_cg (fun a j hR => eq a j (by unfold zR11 at hR; omega)) h11, zI12_cg (fun a j hR => eq a j (by unfold zR12 at hR; omega)) h12, zC8_cg (fun a j hR => eq a j (by unfold zR13 at hR; omega)) h13⟩
      · rw [f1, zs_no (by omega), zs_no (by omega), zs_no (by omega), e1, zs_nj (by decide)]; exact fCutA_8 _ _ _
      · rw [f1, zs_no (by omega), zs_eq]
      · have hp := zPlX_cutA (k := 0) h3.2.1 (by omega) (Nat.zero_le _) h6.2.2.2.2.1 h6.2.2.2.2.2
        refine zPlX_c27 (fun a ha => ?_) hp
        rw [f1, zs_nq (by omega), zs_nq (by omega), zs_nq (by omega), e1, zs_nq (by omega)]
      · rw [f1, zs_no (by omega), zs_no (by omega), zs_no (by omega), e1, zs_eq]
      · rw [f1, zs_eq]
    · exact absurd o1 c1
    · exact absurd o1 c1
  · subst e2
    have hq : ∀ a, (a < 27 ∨ 31 < a) → a ≠ 35 → gi' a = gi a := fun a q1 q2 => by rw [e1, fTakeLA_nq q1 q2]
    refine ⟨r, e3, _, ct_rClear g gi' gl' r (W := W) (by rw [hq 87 (by decide) (by decide)]; exact h3.2.2.1) h3.2.1 (E := E) (by rw [hq 87 (by decide) (by decide)]; exact h6.2.2.1) h6.2.1 a, ?_⟩
    rintro z2 gi2 gl2 gr2 (⟨c1, hz2, f1, f2, f3⟩ | ⟨c1, c2, hz2, f1, f2, f3⟩ | ⟨c1, c2, hz2, f1, f2, f3⟩)
    · exact absurd c1 o1
    · obtain ⟨K', k1, k2, k3, k4, k5, k6⟩ := zClr (v := a) (X0 := zs (zs gi' 87 2 (nI 0)) 87 18 (nI 0)) hE h6.2.2.2.2.1 h6.2.2.2.1 (by rw [zs_nq (by decide), zs_nq (by decide), hq 99 (by decide) (by decide)]) (zs_eq _ _ _ _) E (Nat.le_refl _)
      rw [← f1] at k3 k4 k5 k6 hz2
      rw [← e1] at k2 k4 hz
      refine ⟨by rw [hz2, hz, k2, k3], ?_, r, f3⟩
      obtain ⟨K2, _, p2, p3⟩ := fTakeLA_en (v := a) h6.2.2.2.2.1 hW hE E (Nat.le_refl _)
      obtain ⟨K3, _, s2, s3⟩ := zPlX_takeA (v := a) hW hE h6.2.2.2.2.1 E (Nat.le_refl _)
      rw [← e1] at p2 p3 s2 s3
      have hK2 : K2 = K' := nI_ij (by omega) (by omega) (p2.symm.trans k2)
      have hK3 : K3 = K' := nI_ij (by omega) (by omega) (s2.symm.trans k2)
      subst hK2 hK3
      have e27 : ∀ a, a < 87 → gi2 a = gi' a := fun a q => funext fun j => by rw [k6 a j (by omega) (Or.inl (by omega)), zs_nq (by omega), zs_nq (by omega)]
      have eq : ∀ a j, (a ≠ 27 ∨ j ≠ 8) ∧ (a < 28 ∨ 31 < a) ∧ a ≠ 35 ∧ a ≠ 99 ∧ (a ≠ 87 ∨ (j ≠ 2 ∧ j ≠ 18)) → gi2 a j = gi a j := fun a j h => by
        rw [k6 a j (by omega) (by omega), zs_no (by omega), zs_no (by omega)]
        by_cases q : a = 27
        · subst q; rw [e1]; exact fTakeLA_9 (by omega) E
        · rw [hq a (by omega) (by omega)]
      refine ⟨V, W, Pn, K3, K, Rd, Ps, T, Tp, zI1_cg (fun a j hR => eq a j (by unfold zR1 at hR; omega)) h1, zI2_cg (fun a j hR => eq a j (by unfold zR2 at hR; omega)) h2, zI3_cg (fun a j hR => eq a j (by unfold zR3 at hR; omega)) h3, zI4_cg (fun a j hR => eq a j (by unfold zR4 at hR; omega)) h4, zI5_cg (fun a j hR => eq a j (by unfold zR5 at hR; omega)) h5, ⟨?_, by omega, k3, fun e he => ?_, fun e he => ?_, zPlX_c27 (fun a ha => e27 a (by omega)) s3⟩, zI7_cg (fun a j hR => eq a j (by unfold zR7 at hR; omega)) h7, zI8_cg (fun a j hR => eq a j (by unfold zR8 at hR; omega)) h8, zI9_cg (fun a j hR => eq a j (by unfold zR9 at hR; omega)) h9, zI10_cg (fun a j hR => eq a j (by unfold zR10 at hR; omega)) h10, zI11_cg (fun a j hR => eq a j (by unfold zR11 at hR; omega)) h11, zI12_cg (fun a j hR => eq a j (by unfold zR12 at hR; omega)) h12, zC8_cg (fun a j hR => eq a j (by unfold zR13 at hR; omega)) h13⟩
      · rw [e27 27 (by decide)]; exact k2
      · rw [e27 28 (by decide), e27 29 (by decide), e27 30 (by decide), e27 31 (by decide)]; exact k4 e he
      · have := p3 e he
        rw [e27 (27 + 1) (by decide), e27 (27 + 2) (by decide), e27 (27 + 3) (by decide), e27 (27 + 4) (by decide)]; exact this
    · exact absurd o2 c2
  · subst e1 e2
    refine ⟨r, e3, _, ct_rClear g gi' gl' r (W := W) h3.2.2.1 h3.2.1 (E := E) h6.2.2.1 h6.2.1 a, ?_⟩
    rintro z2 gi2 gl2 gr2 (⟨c1, hz2, f1, f2, f3⟩ | ⟨c1, c2, hz2, f1, f2, f3⟩ | ⟨c1, c2, hz2, f1, f2, f3⟩)
    · exact absurd c1 o1
    · exact absurd c2 o2
    · exact ⟨hz2.trans hz.symm, by rw [f1]; exact zIv_thr hI _, r, f3⟩
/-! terms -/
theorem fTxL_ok : ∀ (m : Nat) (M : zm_I), zTok M → zRdr M → zRdr (fTxL m M).2
  | 0, M, _, hR => zRdr_fail _ hR
  | m + 1, M, hT, hR => by
    have r1 : zRdr (fAv M) := zRdr_of hR (fAv_q M (by decide))
    have h := fRl_ok (zi (fAv M 50 2)) (zi (fAv M 50 3)) (zTok_av hT) r1
    have h2 : zTok (fTl M).2 ∧ zRdr (fTl M).2 := h
    unfold fTxL
    generalize fTl M = Y at h2 ⊢
    split
    · exact r1
    · split
      · exact fTxL_ok m _ h2.1 h2.2
      · exact h2.2
theorem fTx_ok {gi : zm_I} {n : Nat} (hn : n ≤ 500) (hR : zx (gi 42 3) 73) : zRdr (fTx gi n).2 := by
  obtain ⟨h1, h2⟩ := fTx0_ok hn hR
  exact fTxL_ok 501 _ h1 h2
theorem pr_terms (g : zm_G) (gi : zm_I) (gl : zm_J) (r : Nat) (hI : zIv gi) (v : Int32) : zPr g yX10_terms mX10_terms 10 yX11_terms mX11_terms 7 [.int v] gi gl r := by
  obtain ⟨V, W, Pn, E, K, Rd, Ps, T, Tp, h1, h2, h3, h4, h5, h6, h7, h8, h9, h10, h11, h12, h13⟩ := id hI
  have hTp := h10.2.1
  refine ⟨_, ct_terms g gi gl r v h10.1 h10.2.1 h11.2.2.1, ?_⟩
  rintro z gi' gl' gr' (⟨no, hz, e1, e2, e3⟩ | ⟨n, hn, hv, hz, e1, e2, e3⟩)
  · subst e1 e2
    refine ⟨r, e3, _, ct_rTerms g gi' gl' r gi' v h10.2.2.1 h10.2.1 h10.2.2.2 h11.2.2.2.1 h11.2.2.2.2, ?_⟩
    rintro z2 gi2 gl2 gr2 (⟨no2, hz2, f1, f2, f3⟩ | ⟨n2, hn2, hv2, _⟩)
    · exact ⟨hz2.trans hz.symm, by rw [f1]; exact zIv_thr hI _, r, f3⟩
    · refine absurd ⟨?_, ?_⟩ no
      · rw [hv2]; exact (nI_leI (by decide) (by omega)).mpr (by omega)
      · rw [hv2]; exact (nI_leI (by omega) (by omega)).mpr hn2
  · subst e2
    have hR := fTx_ok (gi := zs gi 0 10 (nI 0)) (n := n) (by omega) (by rw [zs_nq (by decide)]; exact h11.2.2.1)
    have hq0 : ∀ a, (a < 42 ∨ 50 < a) → (fTx (zs gi 0 10 (nI 0)) n).2 a = zs gi 0 10 (nI 0) a := fun a ha => fTx_q ha _ n
    generalize hRR : fTx (zs gi 0 10 (nI 0)) n = R at hR hq0 hz e1
    have hq : ∀ a, a ≠ 0 → (a < 36 ∨ 50 < a) → gi' a = gi a := fun a h0 ha => by
      rw [e1]
      split
      · rw [fCpy_q _ (by omega), hq0 a (by omega), zs_nq h0]
      · rw [hq0 a (by omega), zs_nq h0]
    refine ⟨r, e3, _, ct_rTerms g gi' gl' r (zs gi 0 10 (nI 0)) v (T := Tp) (by rw [hq 87 (by decide) (by omega)]; exact h10.2.2.1) h10.2.1 (by rw [hq 88 (by decide) (by omega), zs_nq (by decide)]; exact h10.2.2.2) (fun j hj => by rw [hq 106 (by decide) (by omega)]; exact h11.2.2.2.1 j hj) (fun j => by rw [hq 108 (by decide) (by omega)]; exact h11.2.2.2.2 j), ?_⟩
    rintro z2 gi2 gl2 gr2 (⟨no2, hz2, f1, f2, f3⟩ | ⟨n2, hn2, hv2, hE, f2, f3⟩)
    · refine absurd ⟨?_, ?_⟩ no2
      · rw [hv]; exact (nI_leI (by decide) (by omega)).mpr (by omega)
      · rw [hv]; exact (nI_leI (by omega) (by omega)).mpr hn
    · have hnn : n2 = n := nI_ij (by omega) (by omega) (hv2.symm.trans hv)
      subst hnn
      rw [hRR] at hE
      obtain ⟨⟨q1, q2, q3, q4⟩, ⟨q5, q6⟩, q7⟩ := hE
      have g42 : ∀ j, gi2 42 j = R.2 42 j := fun j => by
        rw [q1 42 (by decide) (by omega), e1]
        split
        · rw [fCpy_q _ (by omega)]
        · rfl
      have eq : ∀ a j, (a ≠ 0 ∨ j ≠ 10) ∧ (a < 36 ∨ 50 < a) ∧ (a < 107 ∨ 120 < a) ∧ (a ≠ 87 ∨ (j ≠ 1 ∧ j ≠ 2 ∧ (j < 29 ∨ (35 < j ∧ j < 46) ∨ 58 < j))) → gi2 a j = gi a j := fun a j h => by
        by_cases c : a = 87
        · subst c
          rw [q2 j (by omega) (by omega) (by omega), hq 87 (by decide) (by omega)]
        · rw [q1 a c (by omega)]
          by_cases c0 : a = 0
          · subst c0
            rw [e1]
            split
            · rw [fCpy_q _ (by omega), hq0 0 (by omega), zs_nj (by omega)]
            · rw [hq0 0 (by omega), zs_nj (by omega)]
          · rw [hq a c0 (by omega)]
      have k0 : gi2 0 10 = nI 0 := by
        rw [q1 0 (by decide) (by omega), e1]
        split
        · rw [fCpy_q _ (by omega), hq0 0 (by omega), zs_eq]
        · rw [hq0 0 (by omega), zs_eq]
      have main : z2 = z ∧ zI8 gi2 := by
        rcases q7 with ⟨b1, b2, b3, b4, b5, b6, b7⟩ | ⟨b1, b2, b3, b4, b5, b6, b7⟩
        · rw [if_neg (by rw [b1]; exact Bool.false_ne_true)] at hz e1
          refine ⟨b2.trans hz.symm, zI8_cg (fun a j hR8 => ?_) h8⟩
          have s1 : ∀ a, a ≠ 0 → (a < 42 ∨ 50 < a) → gi' a = gi a := fun a h0 ha => by rw [e1, hq0 a ha, zs_nq h0]
          unfold zR8 at hR8
          rcases hR8 with ⟨rfl, c⟩ | ⟨rfl, c⟩ | ⟨rfl, rfl⟩ | c | rfl | ⟨c, c2, c3⟩ | ⟨c, c2, c3⟩
          · rw [b7 j c, s1 107 (by decide) (by omega)]
          · rw [q1 36 (by decide) (by omega), s1 36 (by decide) (by omega)]
          · rw [b3, s1 87 (by decide) (by omega)]
          · rw [q1 a (by omega) (by omega), s1 a (by omega) (by omega)]
          · rw [b4, s1 109 (by decide) (by omega)]
          · rw [b5 a j c c2 c3, s1 a (by omega) (by omega)]
          · rcases (show a = 115 ∨ a = 116 by omega) with rfl | rfl
            · rw [(b6 j c3).1, s1 115 (by decide) (by omega)]
            · rw [(b6 j c3).2, s1 116 (by decide) (by omega)]
        · rw [if_pos b1] at hz e1
          have u : ∀ a, 36 ≤ a → a ≤ 40 → gi2 a = fCpy R.2 a := fun a c1 c2 => by rw [q1 a (by omega) (by omega), e1]
          obtain ⟨c5, c6, c7, c8, _⟩ := fCpy_36 R.2
          obtain ⟨d1, d2⟩ := b7 gi2 (fun c hc => by rw [u 37 (by decide) (by decide), u 38 (by decide) (by decide)]; exact fCpy_37 R.2 hc) (fun l hl => by rw [u 39 (by decide) (by decide), u 40 (by decide) (by decide)]; exact fCpy_39 R.2 hl)
          exact ⟨b2.trans hz.symm, by rw [b5, u 36 (by decide) (by decide), c5], by rw [b6, u 36 (by decide) (by decide), c6], by rw [b3, u 36 (by decide) (by decide), c8], d1, d2⟩
      refine ⟨main.1, ?_, r, f3⟩
      refine ⟨V, W, Pn, E, K, Rd, Ps, T, 0, zI1_cg (fun a j hR => eq a j (by unfold zR1 at hR; omega)) h1, zI2_cg (fun a j hR => eq a j (by unfold zR2 at hR; omega)) h2, zI3_cg (fun a j hR => eq a j (by unfold zR3 at hR; omega)) h3, zI4_cg (fun a j hR => eq a j (by unfold zR4 at hR; omega)) h4, zI5_cg (fun a j hR => eq a j (by unfold zR5 at hR; omega)) h5, zI6_cg (fun a j hR => eq a j (by unfold zR6 at hR; omega)) h6, zI7_cg (fun a j hR => eq a j (by unfold zR7 at hR; omega)) h7, main.2, zI9_cg (fun a j hR => eq a j (by unfold zR9 at hR; omega)) h9, ⟨k0, by decide, q3, fun i hi => absurd hi (Nat.not_lt_zero i)⟩, ⟨by rw [q5, g42], by rw [q6, g42], by rw [g42]; exact hR.1, fun j hj => ?_, q4⟩, zI12_cg (fun a j hR => eq a j (by unfold zR12 at hR; omega)) h12, zC8_cg (fun a j hR => eq a j (by unfold zR13 at hR; omega)) h13⟩
      rw [q1 106 (by decide) (by omega), hq 106 (by decide) (by omega)]
      exact h11.2.2.2.1 j hj
