/-! ===== each call keeps the invariant: calls that set ===== -/
def zPr (g : zm_G) (y1 : MethodName) (Y1 : zm_Y) (d1 : Nat) (y2 : MethodName) (Y2 : zm_Y) (d2 : Nat) (as : List Value) (gi : zm_I) (gl : zm_J) (r : Nat) : Prop :=
  ∃ P1 : Int32 → zm_I → zm_J → zm_R → Prop, zC_i g y1 Y1 d1 (.ref 0 :: as) zSH gi gl (zRT r) P1 ∧ ∀ z gi' gl' gr', P1 z gi' gl' gr' → ∃ r', gr' = zRT r' ∧ ∃ P2 : Int32 → zm_I → zm_J → zm_R → Prop, zC_i g y2 Y2 d2 (.ref 87 :: as) zSH gi' gl' (zRT r') P2 ∧ ∀ z2 gi2 gl2 gr2, P2 z2 gi2 gl2 gr2 → z2 = z ∧ zIv gi2 ∧ ∃ r2, gr2 = zRT r2
def zPrL (g : zm_G) (y1 : MethodName) (Y1 : zm_Y) (d1 : Nat) (y2 : MethodName) (Y2 : zm_Y) (d2 : Nat) (as : List Value) (gi : zm_I) (gl : zm_J) (r : Nat) : Prop :=
  ∃ P1 : Int64 → zm_I → zm_J → zm_R → Prop, zC_l g y1 Y1 d1 (.ref 0 :: as) zSH gi gl (zRT r) P1 ∧ ∀ z gi' gl' gr', P1 z gi' gl' gr' → ∃ r', gr' = zRT r' ∧ ∃ P2 : Int64 → zm_I → zm_J → zm_R → Prop, zC_l g y2 Y2 d2 (.ref 87 :: as) zSH gi' gl' (zRT r') P2 ∧ ∀ z2 gi2 gl2 gr2, P2 z2 gi2 gl2 gr2 → z2 = z ∧ zIv gi2 ∧ ∃ r2, gr2 = zRT r2
theorem zx_mono {v : Int32} {a b : Nat} (h : zx v a) (hab : a ≤ b) : zx v b := ⟨h.1, by have := h.2; omega⟩
theorem zx_in {V : Nat} {n : Int32} (h : zin V n) (hV : V < 2 ^ 31) : zx n V := by
  obtain ⟨k, hk, rfl⟩ := zin_nat h hV
  exact zx_of hk hV
theorem zx_wi {V : Nat} {n : Int32} (h : nI 0 ≤ n ∧ n ≤ nI V) (hV : V + 1 < 2 ^ 31) : zx n (V + 1) := by
  obtain ⟨k, hk, rfl⟩ := zwi_nat h (by omega)
  exact zx_of (by omega) hV
theorem nI_le01 {n : Int32} (h : nI 1 ≤ n) : nI 0 ≤ n := Int32.le_trans (by decide) h
theorem zIv_thr {gi : zm_I} (hI : zIv gi) (v : Int32) : zIv (zs gi 87 2 v) := by
  obtain ⟨V, W, Pn, E, K, Rd, Ps, T, Tp, h1, h2, h3, h4, h5, h6, h7, h8, h9, h10, h11, h12, h13⟩ := id hI
  have eq : ∀ a j, (a ≠ 87 ∨ j ≠ 2) → zs gi 87 2 v a j = gi a j := fun a j h => zs_no h
  exact ⟨V, W, Pn, E, K, Rd, Ps, T, Tp, zI1_cg (fun a j hR => eq a j (by unfold zR1 at hR; omega)) h1, zI2_cg (fun a j hR => eq a j (by unfold zR2 at hR; omega)) h2, zI3_cg (fun a j hR => eq a j (by unfold zR3 at hR; omega)) h3, zI4_cg (fun a j hR => eq a j (by unfold zR4 at hR; omega)) h4, zI5_cg (fun a j hR => eq a j (by unfold zR5 at hR; omega)) h5, zI6_cg (fun a j hR => eq a j (by unfold zR6 at hR; omega)) h6, zI7_cg (fun a j hR => eq a j (by unfold zR7 at hR; omega)) h7, zI8_cg (fun a j hR => eq a j (by unfold zR8 at hR; omega)) h8, zI9_cg (fun a j hR => eq a j (by unfold zR9 at hR; omega)) h9, zI10_cg (fun a j hR => eq a j (by unfold zR10 at hR; omega)) h10, zI11_cg (fun a j hR => eq a j (by unfold zR11 at hR; omega)) h11, zI12_cg (fun a j hR => eq a j (by unfold zR12 at hR; omega)) h12, zC8_cg (fun a j hR => eq a j (by unfold zR13 at hR; omega)) h13⟩
theorem pr_village (g : zm_G) (gi : zm_I) (gl : zm_J) (r : Nat) (hI : zIv gi) (p s t c : Int32) : zPr g yX10_village mX10_village 1 yX11_village mX11_village 1 [.int p, .int s, .int t, .int c] gi gl r := by
  obtain ⟨V, W, Pn, E, K, Rd, Ps, T, Tp, h1, h2, h3, h4, h5, h6, h7, h8, h9, h10, h11, h12, h13⟩ := id hI
  have hV := h1.2.1
  have hW := h3.2.1
  have hPn := h4.2.1
  have hE := h6.2.1
  have hK := h7.2.1
  have hRd := h2.2.1
  have hPs := h2.2.2.2.2.2.2.1
  have hT := h9.2.1
  have hTp := h10.2.1
  refine ⟨_, ct_village g gi gl r h1.1 h1.2.1 p s t c, ?_⟩
  rintro z gi' gl' gr' (⟨ok, hz, e1, e2, e3⟩ | ⟨no, hz, e1, e2, e3⟩)
  · subst e2
    refine ⟨r, e3, _, ct_rVillage g gi' gl' r (V := V) (by rw [e1]; unfold fVilRow; rw [zs_no (by omega), zs_no (by omega), zs_no (by omega), zs_no (by omega), zs_no (by omega), zs_no (by omega), zs_no (by omega), zs_no (by omega), zs_no (by omega)]; exact h1.2.2.1) h1.2.1 p s t c, ?_⟩
    rintro z2 gi2 gl2 gr2 (⟨ok2, hz2, f1, f2, f3⟩ | ⟨no2, hz2, f1, f2, f3⟩)
    · refine ⟨hz2.trans hz.symm, ?_, r, f3⟩
      clear hz hz2 ok2
      obtain ⟨⟨o1, o2⟩, ⟨o3, o4⟩, o5, o6, o7⟩ := ok
      have eq : ∀ a j, a ≠ 5 + V ∧ (a ≠ 3 ∨ j ≠ 3) ∧ (a ≠ 87 ∨ (j ≠ 2 ∧ j ≠ 3)) ∧ (a ≠ 89 ∨ j < 8 * V ∨ 8 * V + 7 < j) → gi2 a j = gi a j := fun a j h => by
        rw [f1, e1]
        unfold rVil fVilRow
        repeat rw [zs_no (by omega)]
      refine ⟨(V + 1), W, Pn, E, K, Rd, Ps, T, Tp, ⟨?_, by omega, ?_, fun v k hv hk => ?_, fun v hv => ?_⟩, ⟨(zI2_cg (fun a j hR => eq a j (by unfold zR2 at hR; omega)) h2).1, h2.2.1, (zI2_cg (fun a j hR => eq a j (by unfold zR2 at hR; omega)) h2).2.2.1, fun i hi => ?_, (zI2_cg (fun a j hR => eq a j (by unfold zR2 at hR; omega)) h2).2.2.2.2⟩, zI3_cg (fun a j hR => eq a j (by unfold zR3 at hR; omega)) h3, zI4_cg (fun a j hR => eq a j (by unfold zR4 at hR; omega)) h4, zI5_cg (fun a j hR => eq a j (by unfold zR5 at hR; omega)) h5, zI6_cg (fun a j hR => eq a j (by unfold zR6 at hR; omega)) h6, zI7_cg (fun a j hR => eq a j (by unfold zR7 at hR; omega)) h7, zI8_cg (fun a j hR => eq a j (by unfold zR8 at hR; omega)) h8, zI9_cg (fun a j hR => eq a j (by unfold zR9 at hR; omega)) h9, zI10_cg (fun a j hR => eq a j (by unfold zR10 at hR; omega)) h10, zI11_cg (fun a j hR => eq a j (by unfold zR11 at hR; omega)) h11, zI12_cg (fun a j hR => eq a j (by unfold zR12 at hR; omega)) h12, zC8_cg (fun a j hR => eq a j (by unfold zR13 at hR; omega)) h13⟩
      · rw [f1, e1]; unfold rVil; rw [zs_nq (by decide), zs_nq (by decide), zs_nq (by decide), zs_nq (by decide), zs_nq (by decide), zs_nq (by decide), zs_nq (by decide), zs_nq (by decide), zs_nq (by decide), zs_nq (by decide), zs_eq]
      · rw [f1]; unfold rVil; rw [zs_eq]
      · by_cases e : v = V
        · subst e
          by_cases k0 : k = 0
          · subst k0
            show gi2 89 (8 * v) = gi2 (5 + v) 0
            have q1 : gi2 89 (8 * v) = p := by
              rw [f1, e1]
              unfold rVil fVilRow
              rw [zs_no (by omega), zs_no (by omega), zs_no (by omega), zs_no (by omega), zs_no (by omega), zs_no (by omega), zs_no (by omega), zs_no (by omega), zs_eq]
            have q2 : gi2 (5 + v) 0 = p := by
              rw [f1, e1]
              unfold rVil fVilRow
              repeat rw [zs_no (by omega)]
              exact zs_eq _ _ _ _
            rw [q1, q2]
          · rw [f1, e1]
            unfold rVil fVilRow
            rcases (show k = 1 ∨ k = 2 ∨ k = 3 ∨ k = 4 ∨ k = 5 ∨ k = 6 ∨ k = 7 by omega) with q | q | q | q | q | q | q <;> subst q <;> (repeat (first | rw [zs_no (by omega)] | rw [zs_eq]))
        · rw [eq 89 _ (by omega), eq (5 + v) k (by omega)]; exact h1.2.2.2.1 v k hv hk
      · by_cases e : v = V
        · subst e
          have : gi2 (5 + v) 1 = s := by
            rw [f1, e1]
            unfold rVil fVilRow
            repeat rw [zs_no (by omega)]
            exact zs_eq _ _ _ _
          rw [this]
          exact zx_wi ⟨nI_le01 o3, o4⟩ (by decide)
        · rw [eq (5 + v) 1 (by omega)]; exact h1.2.2.2.2 v hv
      · obtain ⟨A, B, l, q1, q2, q3, q4⟩ := (zI2_cg (fun a j hR => eq a j (by unfold zR2 at hR; omega)) h2).2.2.2.1 i hi
        exact ⟨A, B, l, by omega, by omega, q3, q4⟩
    · exact absurd ok no2
  · subst e1 e2
    refine ⟨r, e3, _, ct_rVillage g gi' gl' r (V := V) h1.2.2.1 h1.2.1 p s t c, ?_⟩
    rintro z2 gi2 gl2 gr2 (⟨ok2, hz2, f1, f2, f3⟩ | ⟨no2, hz2, f1, f2, f3⟩)
    · exact absurd ok2 no
    · exact ⟨hz2.trans hz.symm, by rw [f1]; exact zIv_thr hI _, r, f3⟩
theorem pr_like (g : zm_G) (gi : zm_I) (gl : zm_J) (r : Nat) (hI : zIv gi) (a b n : Int32) : zPr g yX10_like mX10_like 2 yX11_like mX11_like 1 [.int a, .int b, .int n] gi gl r := by
  obtain ⟨V, W, Pn, E, K, Rd, Ps, T, Tp, h1, h2, h3, h4, h5, h6, h7, h8, h9, h10, h11, h12, h13⟩ := id hI
  have hV := h1.2.1
  have hW := h3.2.1
  have hPn := h4.2.1
  have hE := h6.2.1
  have hK := h7.2.1
  have hRd := h2.2.1
  have hPs := h2.2.2.2.2.2.2.1
  have hT := h9.2.1
  have hTp := h10.2.1
  refine ⟨_, ct_like g gi gl r h1.1 h1.2.1 a b n, ?_⟩
  rintro z gi' gl' gr' (⟨ok, hz, e1, e2, e3⟩ | ⟨no, hz, e1, e2, e3⟩)
  · subst e2
    refine ⟨r, e3, _, ct_rLike g gi' gl' r (V := V) (by rw [e1, zs_no (by omega)]; exact h1.2.2.1) h1.2.1 a b n, ?_⟩
    rintro z2 gi2 gl2 gr2 (⟨ok2, hz2, f1, f2, f3⟩ | ⟨no2, hz2, f1, f2, f3⟩)
    · refine ⟨hz2.trans hz.symm, ?_, r, f3⟩
      clear hz hz2 ok2
      obtain ⟨o1, o2, o3⟩ := ok
      obtain ⟨v0, hv0, rfl⟩ := zin_nat o1 (by omega)
      obtain ⟨b0, hb0, rfl⟩ := zwi_nat o2 (by decide)
      rw [zi_nI (by omega), zi_nI (by omega)] at e1 f1
      have eq : ∀ a j, (a ≠ 5 + v0 ∨ j ≠ 4 + b0) ∧ (a ≠ 87 ∨ j ≠ 2) ∧ (a ≠ 89 ∨ j ≠ 8 * v0 + 4 + b0) → gi2 a j = gi a j := fun a j h => by
        rw [f1, e1]
        repeat rw [zs_no (by omega)]
      refine ⟨V, W, Pn, E, K, Rd, Ps, T, Tp, ⟨(eq _ _ (by omega)).trans h1.1, h1.2.1, (eq _ _ (by omega)).trans h1.2.2.1, fun v k hv hk => ?_, fun v hv => ?_⟩, zI2_cg (fun a j hR => eq a j (by unfold zR2 at hR; omega)) h2, zI3_cg (fun a j hR => eq a j (by unfold zR3 at hR; omega)) h3, zI4_cg (fun a j hR => eq a j (by unfold zR4 at hR; omega)) h4, zI5_cg (fun a j hR => eq a j (by unfold zR5 at hR; omega)) h5, zI6_cg (fun a j hR => eq a j (by unfold zR6 at hR; omega)) h6, zI7_cg (fun a j hR => eq a j (by unfold zR7 at hR; omega)) h7, zI8_cg (fun a j hR => eq a j (by unfold zR8 at hR; omega)) h8, zI9_cg (fun a j hR => eq a j (by unfold zR9 at hR; omega)) h9, zI10_cg (fun a j hR => eq a j (by unfold zR10 at hR; omega)) h10, zI11_cg (fun a j hR => eq a j (by unfold zR11 at hR; omega)) h11, zI12_cg (fun a j hR => eq a j (by unfold zR12 at hR; omega)) h12, zC8_cg (fun a j hR => eq a j (by unfold zR13 at hR; omega)) h13⟩
      · by_cases e : v = v0 ∧ k = 4 + b0
        · obtain ⟨rfl, rfl⟩ := e
          rw [f1, e1, show 8 * v + (4 + b0) = 8 * v + 4 + b0 by omega, zs_eq, zs_nq (by omega), zs_nq (by omega), zs_eq]
        · rw [eq 89 _ (by omega), eq (5 + v) k (by omega)]; exact h1.2.2.2.1 v k hv hk
      · rw [eq (5 + v) 1 (by omega)]; exact h1.2.2.2.2 v hv
    · exact absurd ok no2
  · subst e1 e2
    refine ⟨r, e3, _, ct_rLike g gi' gl' r (V := V) h1.2.2.1 h1.2.1 a b n, ?_⟩
    rintro z2 gi2 gl2 gr2 (⟨ok2, hz2, f1, f2, f3⟩ | ⟨no2, hz2, f1, f2, f3⟩)
    · exact absurd ok2 no
    · exact ⟨hz2.trans hz.symm, by rw [f1]; exact zIv_thr hI _, r, f3⟩
theorem pr_van (g : zm_G) (gi : zm_I) (gl : zm_J) (r : Nat) (hI : zIv gi) (v : Int32) : zPr g yX10_van mX10_van 2 yX11_van mX11_van 1 [.int v] gi gl r := by
  obtain ⟨V, W, Pn, E, K, Rd, Ps, T, Tp, h1, h2, h3, h4, h5, h6, h7, h8, h9, h10, h11, h12, h13⟩ := id hI
  have hV := h1.2.1
  have hW := h3.2.1
  have hPn := h4.2.1
  have hE := h6.2.1
  have hK := h7.2.1
  have hRd := h2.2.1
  have hPs := h2.2.2.2.2.2.2.1
  have hT := h9.2.1
  have hTp := h10.2.1
  refine ⟨_, ct_van g gi gl r h1.1 h1.2.1 h3.1 h3.2.1 v, ?_⟩
  rintro z gi' gl' gr' (⟨ok, hz, e1, e2, e3⟩ | ⟨no, hz, e1, e2, e3⟩)
  · subst e2
    refine ⟨r, e3, _, ct_rVan g gi' gl' r (V := V) (W := W) (by rw [e1, zs_no (by omega), zs_no (by omega)]; exact h1.2.2.1) h1.2.1 (by rw [e1, zs_no (by omega), zs_no (by omega)]; exact h3.2.2.1) h3.2.1 v, ?_⟩
    rintro z2 gi2 gl2 gr2 (⟨ok2, hz2, f1, f2, f3⟩ | ⟨no2, hz2, f1, f2, f3⟩)
    · refine ⟨hz2.trans hz.symm, ?_, r, f3⟩
      clear hz hz2 ok2
      obtain ⟨o1, o2⟩ := ok
      have eq : ∀ a j, (a ≠ 20 ∨ j ≠ W) ∧ (a ≠ 19 ∨ j ≠ 3) ∧ (a ≠ 87 ∨ (j ≠ 2 ∧ j ≠ 12)) ∧ (a ≠ 95 ∨ j ≠ W) ∧ (a ≠ 96 ∨ j ≠ W) → gi2 a j = gi a j := fun a j h => by
        rw [f1, e1]
        repeat rw [zs_no (by omega)]
      refine ⟨V, (W + 1), Pn, E, K, Rd, Ps, T, Tp, zI1_cg (fun a j hR => eq a j (by unfold zR1 at hR; omega)) h1, zI2_cg (fun a j hR => eq a j (by unfold zR2 at hR; omega)) h2, ⟨?_, by omega, ?_, fun w hw => ?_, fun w hw1 hw2 => ?_⟩, ?_, zI5_cg (fun a j hR => eq a j (by unfold zR5 at hR; omega)) h5, ?_, ?_, zI8_cg (fun a j hR => eq a j (by unfold zR8 at hR; omega)) h8, zI9_cg (fun a j hR => eq a j (by unfold zR9 at hR; omega)) h9, zI10_cg (fun a j hR => eq a j (by unfold zR10 at hR; omega)) h10, zI11_cg (fun a j hR => eq a j (by unfold zR11 at hR; omega)) h11, zI12_cg (fun a j hR => eq a j (by unfold zR12 at hR; omega)) h12, zC8_cg (fun a j hR => eq a j (by unfold zR13 at hR; omega)) h13⟩
      · rw [f1, e1]; repeat rw [zs_no (by omega)]
        exact zs_eq _ _ _ _
      · rw [f1]; exact zs_eq _ _ _ _
      · by_cases e : w = W
        · subst e
          have g21 := h3.2.2.2.2 w (Nat.le_refl _) o2
          rw [eq 21 w (by omega), g21]
          have q95 : gi2 95 w = v := by rw [f1, e1, zs_no (by omega), zs_no (by omega), zs_eq]
          have q96 : gi2 96 w = nI 0 := by rw [f1, e1, zs_no (by omega), zs_eq]
          have q20 : gi2 20 w = v := by rw [f1, e1, zs_no (by omega), zs_no (by omega), zs_no (by omega), zs_no (by omega), zs_no (by omega), zs_eq]
          rw [q95, q96, q20]
          exact ⟨rfl, rfl, zx_mono (zx_in o1 (by omega)) hV⟩
        · rw [eq 95 w (by omega), eq 96 w (by omega), eq 20 w (by omega), eq 21 w (by omega)]; exact h3.2.2.2.1 w (by omega)
      · rw [eq 21 w (by omega)]; exact h3.2.2.2.2 w (by omega) hw2
      · obtain ⟨q1, q2, q3, q4, q5⟩ := zI4_cg (fun a j hR => eq a j (by unfold zR4 at hR; omega)) h4
        exact ⟨q1, q2, q3, q4, fun p hp => ⟨(q5 p hp).1, zx_mono (q5 p hp).2.1 (by omega), (q5 p hp).2.2⟩⟩
      · obtain ⟨q1, q2, q3, q4, q5, q6⟩ := zI6_cg (fun a j hR => eq a j (by unfold zR6 at hR; omega)) h6
        exact ⟨q1, q2, q3, q4, fun e he => ⟨(q5 e he).1, zx_mono (q5 e he).2.1 (by omega), (q5 e he).2.2⟩, q6⟩
      · obtain ⟨q1, q2, q3, q4, q5⟩ := zI7_cg (fun a j hR => eq a j (by unfold zR7 at hR; omega)) h7
        exact ⟨q1, q2, q3, q4, fun i hi => ⟨(q5 i hi).1, (q5 i hi).2.1, zx_mono (q5 i hi).2.2 (by omega)⟩⟩
    · exact absurd ok no2
  · subst e1 e2
    refine ⟨r, e3, _, ct_rVan g gi' gl' r (V := V) (W := W) h1.2.2.1 h1.2.1 h3.2.2.1 h3.2.1 v, ?_⟩
    rintro z2 gi2 gl2 gr2 (⟨ok2, hz2, f1, f2, f3⟩ | ⟨no2, hz2, f1, f2, f3⟩)
    · exact absurd ok2 no
    · exact ⟨hz2.trans hz.symm, by rw [f1]; exact zIv_thr hI _, r, f3⟩
theorem pr_broken (g : zm_G) (gi : zm_I) (gl : zm_J) (r : Nat) (hI : zIv gi) (a n : Int32) : zPr g yX10_broken mX10_broken 2 yX11_broken mX11_broken 1 [.int a, .int n] gi gl r := by
  obtain ⟨V, W, Pn, E, K, Rd, Ps, T, Tp, h1, h2, h3, h4, h5, h6, h7, h8, h9, h10, h11, h12, h13⟩ := id hI
  have hV := h1.2.1
  have hW := h3.2.1
  have hPn := h4.2.1
  have hE := h6.2.1
  have hK := h7.2.1
  have hRd := h2.2.1
  have hPs := h2.2.2.2.2.2.2.1
  have hT := h9.2.1
  have hTp := h10.2.1
  refine ⟨_, ct_broken g gi gl r h3.1 h3.2.1 a n, ?_⟩
  rintro z gi' gl' gr' (⟨ok, hz, e1, e2, e3⟩ | ⟨no, hz, e1, e2, e3⟩)
  · subst e2
    refine ⟨r, e3, _, ct_rBroken g gi' gl' r (W := W) (by rw [e1, zs_no (by omega)]; exact h3.2.2.1) h3.2.1 a n, ?_⟩
    rintro z2 gi2 gl2 gr2 (⟨ok2, hz2, f1, f2, f3⟩ | ⟨no2, hz2, f1, f2, f3⟩)
    · refine ⟨hz2.trans hz.symm, ?_, r, f3⟩
      clear hz hz2 ok2
      obtain ⟨o1, o2⟩ := ok
      obtain ⟨v0, hv0, rfl⟩ := zin_nat o1 (by omega)
      rw [zi_nI (by omega)] at e1 f1
      have eq : ∀ a j, (a ≠ 21 ∨ j ≠ v0) ∧ (a ≠ 87 ∨ j ≠ 2) ∧ (a ≠ 96 ∨ j ≠ v0) → gi2 a j = gi a j := fun a j h => by
        rw [f1, e1]
        repeat rw [zs_no (by omega)]
      refine ⟨V, W, Pn, E, K, Rd, Ps, T, Tp, zI1_cg (fun a j hR => eq a j (by unfold zR1 at hR; omega)) h1, zI2_cg (fun a j hR => eq a j (by unfold zR2 at hR; omega)) h2, ⟨(eq _ _ (by omega)).trans h3.1, h3.2.1, (eq _ _ (by omega)).trans h3.2.2.1, fun w hw => ?_, fun w hw1 hw2 => ?_⟩, zI4_cg (fun a j hR => eq a j (by unfold zR4 at hR; omega)) h4, zI5_cg (fun a j hR => eq a j (by unfold zR5 at hR; omega)) h5, zI6_cg (fun a j hR => eq a j (by unfold zR6 at hR; omega)) h6, zI7_cg (fun a j hR => eq a j (by unfold zR7 at hR; omega)) h7, zI8_cg (fun a j hR => eq a j (by unfold zR8 at hR; omega)) h8, zI9_cg (fun a j hR => eq a j (by unfold zR9 at hR; omega)) h9, zI10_cg (fun a j hR => eq a j (by unfold zR10 at hR; omega)) h10, zI11_cg (fun a j hR => eq a j (by unfold zR11 at hR; omega)) h11, zI12_cg (fun a j hR => eq a j (by unfold zR12 at hR; omega)) h12, zC8_cg (fun a j hR => eq a j (by unfold zR13 at hR; omega)) h13⟩
      · by_cases e : w = v0
        · subst e
          have q96 : gi2 96 w = n := by rw [f1, zs_eq]
          have q21 : gi2 21 w = n := by rw [f1, e1, zs_no (by omega), zs_no (by omega), zs_eq]
          rw [q96, q21, eq 95 w (by omega), eq 20 w (by omega)]
          exact ⟨(h3.2.2.2.1 w hw).1, rfl, (h3.2.2.2.1 w hw).2.2⟩
        · rw [eq 95 w (by omega), eq 96 w (by omega), eq 20 w (by omega), eq 21 w (by omega)]; exact h3.2.2.2.1 w hw
      · rw [eq 21 w (by omega)]; exact h3.2.2.2.2 w hw1 hw2
    · exact absurd ok no2
  · subst e1 e2
    refine ⟨r, e3, _, ct_rBroken g gi' gl' r (W := W) h3.2.2.1 h3.2.1 a n, ?_⟩
    rintro z2 gi2 gl2 gr2 (⟨ok2, hz2, f1, f2, f3⟩ | ⟨no2, hz2, f1, f2, f3⟩)
    · exact absurd ok2 no
    · exact ⟨hz2.trans hz.symm, by rw [f1]; exact zIv_thr hI _, r, f3⟩
theorem pr_egg (g : zm_G) (gi : zm_I) (gl : zm_J) (r : Nat) (hI : zIv gi) (a n : Int32) : zPr g yX10_egg mX10_egg 2 yX11_egg mX11_egg 1 [.int a, .int n] gi gl r := by
  obtain ⟨V, W, Pn, E, K, Rd, Ps, T, Tp, h1, h2, h3, h4, h5, h6, h7, h8, h9, h10, h11, h12, h13⟩ := id hI
  have hV := h1.2.1
  have hW := h3.2.1
  have hPn := h4.2.1
  have hE := h6.2.1
  have hK := h7.2.1
  have hRd := h2.2.1
  have hPs := h2.2.2.2.2.2.2.1
  have hT := h9.2.1
  have hTp := h10.2.1
  refine ⟨_, ct_egg g gi gl r  a n, ?_⟩
  rintro z gi' gl' gr' (⟨ok, hz, e1, e2, e3⟩ | ⟨no, hz, e1, e2, e3⟩)
  · subst e2
    refine ⟨r, e3, _, ct_rEgg g gi' gl' r  a n, ?_⟩
    rintro z2 gi2 gl2 gr2 (⟨ok2, hz2, f1, f2, f3⟩ | ⟨no2, hz2, f1, f2, f3⟩)
    · refine ⟨hz2.trans hz.symm, ?_, r, f3⟩
      clear hz hz2 ok2
      obtain ⟨o1, o2, o3⟩ := ok
      obtain ⟨v0, hv0, rfl⟩ := zwi_nat o1 (by decide)
      obtain ⟨x, hx, rfl⟩ := zwi_nat ⟨nI_le01 o2, o3⟩ (by decide)
      have hx1 := (nI_leI (by decide) (by omega)).mp o2
      rw [zi_nI (by omega)] at e1 f1
      have eq : ∀ a j, (a ≠ 2 ∨ j ≠ v0) ∧ (a ≠ 87 ∨ j ≠ 2) ∧ (a ≠ 98 ∨ j ≠ v0) → gi2 a j = gi a j := fun a j h => by
        rw [f1, e1]
        repeat rw [zs_no (by omega)]
      refine ⟨V, W, Pn, E, K, Rd, Ps, T, Tp, zI1_cg (fun a j hR => eq a j (by unfold zR1 at hR; omega)) h1, zI2_cg (fun a j hR => eq a j (by unfold zR2 at hR; omega)) h2, zI3_cg (fun a j hR => eq a j (by unfold zR3 at hR; omega)) h3, zI4_cg (fun a j hR => eq a j (by unfold zR4 at hR; omega)) h4, fun w hw => ?_, zI6_cg (fun a j hR => eq a j (by unfold zR6 at hR; omega)) h6, zI7_cg (fun a j hR => eq a j (by unfold zR7 at hR; omega)) h7, zI8_cg (fun a j hR => eq a j (by unfold zR8 at hR; omega)) h8, zI9_cg (fun a j hR => eq a j (by unfold zR9 at hR; omega)) h9, zI10_cg (fun a j hR => eq a j (by unfold zR10 at hR; omega)) h10, zI11_cg (fun a j hR => eq a j (by unfold zR11 at hR; omega)) h11, zI12_cg (fun a j hR => eq a j (by unfold zR12 at hR; omega)) h12, zC8_cg (fun a j hR => eq a j (by unfold zR13 at hR; omega)) h13⟩
      by_cases e : w = v0
      · subst e
        have q98 : gi2 98 w = nI x := by rw [f1, zs_eq]
        have q2 : gi2 2 w = nI x := by rw [f1, e1, zs_no (by omega), zs_no (by omega), zs_eq]
        rw [q98, q2]
        exact ⟨rfl, x, hx1, hx, rfl⟩
      · rw [eq 98 w (by omega), eq 2 w (by omega)]; exact h5 w hw
    · exact absurd ok no2
  · subst e1 e2
    refine ⟨r, e3, _, ct_rEgg g gi' gl' r  a n, ?_⟩
    rintro z2 gi2 gl2 gr2 (⟨ok2, hz2, f1, f2, f3⟩ | ⟨no2, hz2, f1, f2, f3⟩)
    · exact absurd ok2 no
    · exact ⟨hz2.trans hz.symm, by rw [f1]; exact zIv_thr hI _, r, f3⟩
