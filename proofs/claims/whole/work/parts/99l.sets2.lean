theorem pr_print (g : zm_G) (gi : zm_I) (gl : zm_J) (r : Nat) (hI : zIv gi) (ge ag mi va ho du fi : Int32) : zPr g yX10_print mX10_print 2 yX11_print mX11_print 1 [.int ge, .int ag, .int mi, .int va, .int ho, .int du, .int fi] gi gl r := by
  obtain ⟨V, W, Pn, E, K, Rd, Ps, T, Tp, h1, h2, h3, h4, h5, h6, h7, h8, h9, h10, h11, h12, h13⟩ := id hI
  have hV := h1.2.1
  have hW := h3.2.1
  have hPn := h4.2.1
  have hE := h6.2.1
  have hK := h7.2.1
  have hRd := h2.2.1
  have hPs := h2.2.2.2.2.2.2.1
  have hT := h9.2.1
  have hTp := h10.2.1
  refine ⟨_, ct_print g gi gl r h1.1 h1.2.1 h3.1 h3.2.1 h4.1 h4.2.1 ge ag mi va ho du fi, ?_⟩
  rintro z gi' gl' gr' (⟨ok, hz, e1, e2, e3⟩ | ⟨no, hz, e1, e2, e3⟩)
  · subst e2
    refine ⟨r, e3, _, ct_rPrint g gi' gl' r (V := V) (W := W) (Pn := Pn) (by rw [e1]; unfold fPrRow; rw [zs_no (by omega), zs_no (by omega), zs_no (by omega), zs_no (by omega), zs_no (by omega), zs_no (by omega), zs_no (by omega), zs_no (by omega)]; exact h1.2.2.1) h1.2.1 (by rw [e1]; unfold fPrRow; rw [zs_no (by omega), zs_no (by omega), zs_no (by omega), zs_no (by omega), zs_no (by omega), zs_no (by omega), zs_no (by omega), zs_no (by omega)]; exact h3.2.2.1) h3.2.1 (by rw [e1]; unfold fPrRow; rw [zs_no (by omega), zs_no (by omega), zs_no (by omega), zs_no (by omega), zs_no (by omega), zs_no (by omega), zs_no (by omega), zs_no (by omega)]; exact h4.2.2.1) h4.2.1 ge ag mi va ho du fi, ?_⟩
    rintro z2 gi2 gl2 gr2 (⟨ok2, hz2, f1, f2, f3⟩ | ⟨no2, hz2, f1, f2, f3⟩)
    · refine ⟨hz2.trans hz.symm, ?_, r, f3⟩
      clear hz hz2 ok2
      obtain ⟨o1, o2, o3, o4, o5, o6, o7, o8⟩ := ok
      have eq : ∀ a j, a ≠ 23 + Pn ∧ (a ≠ 19 ∨ j ≠ 4) ∧ (a ≠ 87 ∨ (j ≠ 2 ∧ j ≠ 15)) ∧ (a ≠ 97 ∨ j < 7 * Pn ∨ 7 * Pn + 6 < j) → gi2 a j = gi a j := fun a j h => by
        rw [f1, e1]
        unfold rPr fPrRow
        repeat rw [zs_no (by omega)]
      refine ⟨V, W, (Pn + 1), E, K, Rd, Ps, T, Tp, zI1_cg (fun a j hR => eq a j (by unfold zR1 at hR; omega)) h1, zI2_cg (fun a j hR => eq a j (by unfold zR2 at hR; omega)) h2, zI3_cg (fun a j hR => eq a j (by unfold zR3 at hR; omega)) h3, ⟨?_, by omega, ?_, fun p k hp hk => ?_, fun p hp => ?_⟩, zI5_cg (fun a j hR => eq a j (by unfold zR5 at hR; omega)) h5, ?_, ?_, zI8_cg (fun a j hR => eq a j (by unfold zR8 at hR; omega)) h8, zI9_cg (fun a j hR => eq a j (by unfold zR9 at hR; omega)) h9, zI10_cg (fun a j hR => eq a j (by unfold zR10 at hR; omega)) h10, zI11_cg (fun a j hR => eq a j (by unfold zR11 at hR; omega)) h11, zI12_cg (fun a j hR => eq a j (by unfold zR12 at hR; omega)) h12, zC8_cg (fun a j hR => eq a j (by unfold zR13 at hR; omega)) h13⟩
      · rw [f1, e1]; unfold rPr; repeat rw [zs_no (by omega)]
        exact zs_eq _ _ _ _
      · rw [f1]; unfold rPr; exact zs_eq _ _ _ _
      · by_cases e : p = Pn
        · subst e
          by_cases k0 : k = 0
          · subst k0
            show gi2 97 (7 * p) = gi2 (23 + p) 0
            have q1 : gi2 97 (7 * p) = ge := by
              rw [f1, e1]
              unfold rPr fPrRow
              rw [zs_no (by omega), zs_no (by omega), zs_no (by omega), zs_no (by omega), zs_no (by omega), zs_no (by omega), zs_no (by omega), zs_eq]
            have q2 : gi2 (23 + p) 0 = ge := by
              rw [f1, e1]
              unfold rPr fPrRow
              repeat rw [zs_no (by omega)]
              exact zs_eq _ _ _ _
            rw [q1, q2]
          · rw [f1, e1]
            unfold rPr fPrRow
            rcases (show k = 1 ∨ k = 2 ∨ k = 3 ∨ k = 4 ∨ k = 5 ∨ k = 6 by omega) with q | q | q | q | q | q <;> subst q <;> (repeat (first | rw [zs_no (by omega)] | rw [zs_eq]))
        · rw [eq 97 _ (by omega), eq (23 + p) k (by omega)]; exact h4.2.2.2.1 p k (by omega) hk
      · by_cases e : p = Pn
        · subst e
          have q0 : gi2 (23 + p) 0 = ge := by
            rw [f1, e1]; unfold rPr fPrRow; repeat rw [zs_no (by omega)]
            exact zs_eq _ _ _ _
          have q3 : gi2 (23 + p) 3 = va := by
            rw [f1, e1]; unfold rPr fPrRow; repeat rw [zs_no (by omega)]
            exact zs_eq _ _ _ _
          have q5 : gi2 (23 + p) 5 = du := by
            rw [f1, e1]; unfold rPr fPrRow; repeat rw [zs_no (by omega)]
            exact zs_eq _ _ _ _
          rw [q0, q3, q5]
          exact ⟨zx_wi o1 (by decide), zx_in o4 (by omega), zx_wi o6 (by decide)⟩
        · rw [eq (23 + p) 0 (by omega), eq (23 + p) 3 (by omega), eq (23 + p) 5 (by omega)]; exact h4.2.2.2.2 p (by omega)
      · obtain ⟨q1, q2, q3, q4, q5, q6⟩ := zI6_cg (fun a j hR => eq a j (by unfold zR6 at hR; omega)) h6
        exact ⟨q1, q2, q3, q4, fun e he => ⟨(q5 e he).1, (q5 e he).2.1, (q5 e he).2.2.1, zx_mono (q5 e he).2.2.2 (by omega)⟩, q6⟩
      · obtain ⟨q1, q2, q3, q4, q5⟩ := zI7_cg (fun a j hR => eq a j (by unfold zR7 at hR; omega)) h7
        exact ⟨q1, q2, q3, q4, fun i hi => ⟨(q5 i hi).1, zx_mono (q5 i hi).2.1 (by omega), (q5 i hi).2.2⟩⟩
    · exact absurd ok no2
  · subst e1 e2
    refine ⟨r, e3, _, ct_rPrint g gi' gl' r (V := V) (W := W) (Pn := Pn) h1.2.2.1 h1.2.1 h3.2.2.1 h3.2.1 h4.2.2.1 h4.2.1 ge ag mi va ho du fi, ?_⟩
    rintro z2 gi2 gl2 gr2 (⟨ok2, hz2, f1, f2, f3⟩ | ⟨no2, hz2, f1, f2, f3⟩)
    · exact absurd ok2 no
    · exact ⟨hz2.trans hz.symm, by rw [f1]; exact zIv_thr hI _, r, f3⟩
theorem zPlX_c27 {E : Nat} {M M' : zm_I} (h : ∀ a, (a = 28 ∨ a = 29 ∨ a = 35) → M' a = M a) (k : zPlX 27 E M) : zPlX 27 E M' := fun n w hn hw => by
  rw [h (27 + 8) (by omega), zPc_cg E (fun i _ => by rw [h (27 + 1) (by omega), h (27 + 2) (by omega)]; exact ⟨rfl, rfl⟩)]
  exact k n w hn hw
theorem pr_entry (g : zm_G) (gi : zm_I) (gl : zm_J) (r : Nat) (hI : zIv gi) (a b c d : Int32) : zPr g yX10_entry mX10_entry 2 yX11_entry mX11_entry 1 [.int a, .int b, .int c, .int d] gi gl r := by
  obtain ⟨V, W, Pn, E, K, Rd, Ps, T, Tp, h1, h2, h3, h4, h5, h6, h7, h8, h9, h10, h11, h12, h13⟩ := id hI
  have hV := h1.2.1
  have hW := h3.2.1
  have hPn := h4.2.1
  have hE := h6.2.1
  have hK := h7.2.1
  have hRd := h2.2.1
  have hPs := h2.2.2.2.2.2.2.1
  have hT := h9.2.1
  have hTp := h10.2.1
  refine ⟨_, ct_entry g gi gl r h1.1 h1.2.1 h3.1 h3.2.1 h4.1 h4.2.1 h6.1 h6.2.1 a b c d, ?_⟩
  rintro z gi' gl' gr' (⟨ok, hz, e1, e2, e3⟩ | ⟨no, hz, e1, e2, e3⟩)
  · subst e2
    refine ⟨r, e3, _, ct_rEntry g gi' gl' r (V := V) (W := W) (Pn := Pn) (E := E) (by rw [e1]; unfold fAddEA; rw [zs_no (by omega), zs_no (by omega), zs_no (by omega), zs_no (by omega), zs_no (by omega), zs_no (by omega)]; exact h1.2.2.1) h1.2.1 (by rw [e1]; unfold fAddEA; rw [zs_no (by omega), zs_no (by omega), zs_no (by omega), zs_no (by omega), zs_no (by omega), zs_no (by omega)]; exact h3.2.2.1) h3.2.1 (by rw [e1]; unfold fAddEA; rw [zs_no (by omega), zs_no (by omega), zs_no (by omega), zs_no (by omega), zs_no (by omega), zs_no (by omega)]; exact h4.2.2.1) h4.2.1 (by rw [e1]; unfold fAddEA; rw [zs_no (by omega), zs_no (by omega), zs_no (by omega), zs_no (by omega), zs_no (by omega), zs_no (by omega)]; exact h6.2.2.1) h6.2.1 a b c d, ?_⟩
    rintro z2 gi2 gl2 gr2 (⟨ok2, hz2, f1, f2, f3⟩ | ⟨no2, hz2, f1, f2, f3⟩)
    · refine ⟨hz2.trans hz.symm, ?_, r, f3⟩
      clear hz hz2 ok2
      obtain ⟨o1, o2, o3, o4, o5⟩ := ok
      obtain ⟨a0, ha0, rfl⟩ := zwi_nat o1 (by decide)
      obtain ⟨b0, hb0, rfl⟩ := zin_nat o2 (by omega)
      rw [zi_nI (by omega), zi_nI (by omega)] at e1
      have eq : ∀ a j, (a ≠ 28 ∨ j ≠ E) ∧ (a ≠ 29 ∨ j ≠ E) ∧ (a ≠ 30 ∨ j ≠ E) ∧ (a ≠ 31 ∨ j ≠ E) ∧ a ≠ 35 ∧ (a ≠ 27 ∨ j ≠ 8) ∧ (a ≠ 87 ∨ (j ≠ 2 ∧ j ≠ 18)) ∧ (a ≠ 99 ∨ j < 4 * E ∨ 4 * E + 3 < j) → gi2 a j = gi a j := fun a j h => by
        rw [f1, e1]
        unfold rSets fAddEA
        repeat rw [zs_no (by omega)]
      have eq2 : ∀ a, a < 87 → gi2 a = gi' a := fun a h => by
        rw [f1]
        unfold rSets
        rw [zs_nq (by omega), zs_nq (by omega), zs_nq (by omega), zs_nq (by omega), zs_nq (by omega), zs_nq (by omega)]
      have q28 : gi2 28 E = nI a0 := by rw [eq2 28 (by decide), e1]; unfold fAddEA; rw [zs_no (by omega), zs_no (by omega), zs_no (by omega), zs_no (by omega), zs_no (by omega), zs_eq]
      have q29 : gi2 29 E = nI b0 := by rw [eq2 29 (by decide), e1]; unfold fAddEA; rw [zs_no (by omega), zs_no (by omega), zs_no (by omega), zs_no (by omega), zs_eq]
      have q30 : gi2 30 E = c := by rw [eq2 30 (by decide), e1]; unfold fAddEA; rw [zs_no (by omega), zs_no (by omega), zs_no (by omega), zs_eq]
      have q31 : gi2 31 E = d := by rw [eq2 31 (by decide), e1]; unfold fAddEA; rw [zs_no (by omega), zs_no (by omega), zs_eq]
      refine ⟨V, W, Pn, (E + 1), K, Rd, Ps, T, Tp, zI1_cg (fun a j hR => eq a j (by unfold zR1 at hR; omega)) h1, zI2_cg (fun a j hR => eq a j (by unfold zR2 at hR; omega)) h2, zI3_cg (fun a j hR => eq a j (by unfold zR3 at hR; omega)) h3, zI4_cg (fun a j hR => eq a j (by unfold zR4 at hR; omega)) h4, zI5_cg (fun a j hR => eq a j (by unfold zR5 at hR; omega)) h5, ⟨?_, by omega, ?_, fun e he => ?_, fun e he => ?_, zPlX_c27 (fun a ha => eq2 a (by omega)) (by rw [e1]; exact zPlX_addA (by omega) (by omega) (by omega) h6.2.2.2.2.2)⟩, zI7_cg (fun a j hR => eq a j (by unfold zR7 at hR; omega)) h7, zI8_cg (fun a j hR => eq a j (by unfold zR8 at hR; omega)) h8, zI9_cg (fun a j hR => eq a j (by unfold zR9 at hR; omega)) h9, zI10_cg (fun a j hR => eq a j (by unfold zR10 at hR; omega)) h10, zI11_cg (fun a j hR => eq a j (by unfold zR11 at hR; omega)) h11, zI12_cg (fun a j hR => eq a j (by unfold zR12 at hR; omega)) h12, zC8_cg (fun a j hR => eq a j (by unfold zR13 at hR; omega)) h13⟩
      · rw [eq2 27 (by decide), e1]; exact fAddEA_8 _ _ _ _ _ _
      · rw [f1]; exact zs_eq _ _ _ _
      · by_cases q : e = E
        · subst q
          rw [q28, q29, q30, q31, f1]
          unfold rSets
          refine ⟨?_, ?_, ?_, ?_⟩ <;> (repeat (first | rw [zs_no (by omega)] | rw [zs_eq]))
        · rw [eq 99 _ (by omega), eq 99 _ (by omega), eq 99 _ (by omega), eq 99 _ (by omega), eq 28 e (by omega), eq 29 e (by omega), eq 30 e (by omega), eq 31 e (by omega)]; exact h6.2.2.2.1 e (by omega)
      · by_cases q : e = E
        · subst q
          show zx (gi2 28 e) 4 ∧ zx (gi2 29 e) W ∧ zx (gi2 30 e) 8 ∧ zx (gi2 31 e) Pn
          rw [q28, q29, q30, q31]
          exact ⟨zx_of (by omega) (by decide), zx_of hb0 (by omega), zx_mono (zx_in o3 (by omega)) hV, zx_in o4 (by omega)⟩
        · show zx (gi2 28 e) 4 ∧ zx (gi2 29 e) W ∧ zx (gi2 30 e) 8 ∧ zx (gi2 31 e) Pn
          rw [eq 28 e (by omega), eq 29 e (by omega), eq 30 e (by omega), eq 31 e (by omega)]; exact h6.2.2.2.2.1 e (by omega)
    · exact absurd ok no2
  · subst e1 e2
    refine ⟨r, e3, _, ct_rEntry g gi' gl' r (V := V) (W := W) (Pn := Pn) (E := E) h1.2.2.1 h1.2.1 h3.2.2.1 h3.2.1 h4.2.2.1 h4.2.1 h6.2.2.1 h6.2.1 a b c d, ?_⟩
    rintro z2 gi2 gl2 gr2 (⟨ok2, hz2, f1, f2, f3⟩ | ⟨no2, hz2, f1, f2, f3⟩)
    · exact absurd ok2 no
    · exact ⟨hz2.trans hz.symm, by rw [f1]; exact zIv_thr hI _, r, f3⟩
theorem pr_hand (g : zm_G) (gi : zm_I) (gl : zm_J) (r : Nat) (hI : zIv gi) (a b c : Int32) : zPr g yX10_hand mX10_hand 2 yX11_hand mX11_hand 1 [.int a, .int b, .int c] gi gl r := by
  obtain ⟨V, W, Pn, E, K, Rd, Ps, T, Tp, h1, h2, h3, h4, h5, h6, h7, h8, h9, h10, h11, h12, h13⟩ := id hI
  have hV := h1.2.1
  have hW := h3.2.1
  have hPn := h4.2.1
  have hE := h6.2.1
  have hK := h7.2.1
  have hRd := h2.2.1
  have hPs := h2.2.2.2.2.2.2.1
  have hT := h9.2.1
  have hTp := h10.2.1
  refine ⟨_, ct_hand g gi gl r h3.1 h3.2.1 h4.1 h4.2.1 h7.1 h7.2.1 a b c, ?_⟩
  rintro z gi' gl' gr' (⟨ok, hz, e1, e2, e3⟩ | ⟨no, hz, e1, e2, e3⟩)
  · subst e2
    refine ⟨r, e3, _, ct_rHand g gi' gl' r (W := W) (Pn := Pn) (K := K) (by rw [e1]; unfold fAddHA; rw [zs_no (by omega), zs_no (by omega), zs_no (by omega), zs_no (by omega)]; exact h3.2.2.1) h3.2.1 (by rw [e1]; unfold fAddHA; rw [zs_no (by omega), zs_no (by omega), zs_no (by omega), zs_no (by omega)]; exact h4.2.2.1) h4.2.1 (by rw [e1]; unfold fAddHA; rw [zs_no (by omega), zs_no (by omega), zs_no (by omega), zs_no (by omega)]; exact h7.2.2.1) h7.2.1 a b c, ?_⟩
    rintro z2 gi2 gl2 gr2 (⟨ok2, hz2, f1, f2, f3⟩ | ⟨no2, hz2, f1, f2, f3⟩)
    · refine ⟨hz2.trans hz.symm, ?_, r, f3⟩
      clear hz hz2 ok2
      obtain ⟨o1, o2, o3, o4⟩ := ok
      have eq : ∀ a j, (a ≠ 32 ∨ j ≠ K) ∧ (a ≠ 33 ∨ j ≠ K) ∧ (a ≠ 34 ∨ j ≠ K) ∧ (a ≠ 27 ∨ j ≠ 9) ∧ (a ≠ 87 ∨ (j ≠ 2 ∧ j ≠ 20)) ∧ (a ≠ 100 ∨ j < 3 * K ∨ 3 * K + 2 < j) → gi2 a j = gi a j := fun a j h => by
        rw [f1, e1]
        unfold fAddHA
        repeat rw [zs_no (by omega)]
      have q32 : gi2 32 K = a := by
        rw [f1, e1]; unfold fAddHA; repeat rw [zs_no (by omega)]
        exact zs_eq _ _ _ _
      have q33 : gi2 33 K = b := by
        rw [f1, e1]; unfold fAddHA; repeat rw [zs_no (by omega)]
        exact zs_eq _ _ _ _
      have q34 : gi2 34 K = c := by
        rw [f1, e1]; unfold fAddHA; repeat rw [zs_no (by omega)]
        exact zs_eq _ _ _ _
      refine ⟨V, W, Pn, E, (K + 1), Rd, Ps, T, Tp, zI1_cg (fun a j hR => eq a j (by unfold zR1 at hR; omega)) h1, zI2_cg (fun a j hR => eq a j (by unfold zR2 at hR; omega)) h2, zI3_cg (fun a j hR => eq a j (by unfold zR3 at hR; omega)) h3, zI4_cg (fun a j hR => eq a j (by unfold zR4 at hR; omega)) h4, zI5_cg (fun a j hR => eq a j (by unfold zR5 at hR; omega)) h5, zI6_cg (fun a j hR => eq a j (by unfold zR6 at hR; omega)) h6, ⟨?_, by omega, ?_, fun i hi => ?_, fun i hi => ?_⟩, zI8_cg (fun a j hR => eq a j (by unfold zR8 at hR; omega)) h8, zI9_cg (fun a j hR => eq a j (by unfold zR9 at hR; omega)) h9, zI10_cg (fun a j hR => eq a j (by unfold zR10 at hR; omega)) h10, zI11_cg (fun a j hR => eq a j (by unfold zR11 at hR; omega)) h11, zI12_cg (fun a j hR => eq a j (by unfold zR12 at hR; omega)) h12, zC8_cg (fun a j hR => eq a j (by unfold zR13 at hR; omega)) h13⟩
      · rw [f1, e1]; unfold fAddHA; repeat rw [zs_no (by omega)]
        exact zs_eq _ _ _ _
      · rw [f1]; exact zs_eq _ _ _ _
      · by_cases q : i = K
        · subst q
          rw [q32, q33, q34, f1]
          refine ⟨?_, ?_, ?_⟩ <;> (repeat (first | rw [zs_no (by omega)] | rw [zs_eq]))
        · rw [eq 100 _ (by omega), eq 100 _ (by omega), eq 100 _ (by omega), eq 32 i (by omega), eq 33 i (by omega), eq 34 i (by omega)]; exact h7.2.2.2.1 i (by omega)
      · by_cases q : i = K
        · subst q
          rw [q32, q33, q34]
          exact ⟨zx_wi o1 (by decide), zx_in o2 (by omega), zx_in o3 (by omega)⟩
        · rw [eq 32 i (by omega), eq 33 i (by omega), eq 34 i (by omega)]; exact h7.2.2.2.2 i (by omega)
    · exact absurd ok no2
  · subst e1 e2
    refine ⟨r, e3, _, ct_rHand g gi' gl' r (W := W) (Pn := Pn) (K := K) h3.2.2.1 h3.2.1 h4.2.2.1 h4.2.1 h7.2.2.1 h7.2.1 a b c, ?_⟩
    rintro z2 gi2 gl2 gr2 (⟨ok2, hz2, f1, f2, f3⟩ | ⟨no2, hz2, f1, f2, f3⟩)
    · exact absurd ok2 no
    · exact ⟨hz2.trans hz.symm, by rw [f1]; exact zIv_thr hI _, r, f3⟩
theorem pr_report (g : zm_G) (gi : zm_I) (gl : zm_J) (r : Nat) (hI : zIv gi) (a b c : Int32) : zPr g yX10_report mX10_report 2 yX11_report mX11_report 1 [.int a, .int b, .int c] gi gl r := by
  obtain ⟨V, W, Pn, E, K, Rd, Ps, T, Tp, h1, h2, h3, h4, h5, h6, h7, h8, h9, h10, h11, h12, h13⟩ := id hI
  have hV := h1.2.1
  have hW := h3.2.1
  have hPn := h4.2.1
  have hE := h6.2.1
  have hK := h7.2.1
  have hRd := h2.2.1
  have hPs := h2.2.2.2.2.2.2.1
  have hT := h9.2.1
  have hTp := h10.2.1
  refine ⟨_, ct_report g gi gl r h1.1 h1.2.1 h9.1 h9.2.1 a b c, ?_⟩
  rintro z gi' gl' gr' (⟨ok, hz, e1, e2, e3⟩ | ⟨no, hz, e1, e2, e3⟩)
  · subst e2
    refine ⟨r, e3, _, ct_rReport g gi' gl' r (V := V) (T := T) (by rw [e1]; rw [zs_no (by omega), zs_no (by omega), zs_no (by omega), zs_no (by omega), zs_no (by omega)]; exact h1.2.2.1) h1.2.1 (by rw [e1]; rw [zs_no (by omega), zs_no (by omega), zs_no (by omega), zs_no (by omega), zs_no (by omega)]; exact h9.2.2.1) h9.2.1 a b c, ?_⟩
    rintro z2 gi2 gl2 gr2 (⟨ok2, hz2, f1, f2, f3⟩ | ⟨no2, hz2, f1, f2, f3⟩)
    · refine ⟨hz2.trans hz.symm, ?_, r, f3⟩
      clear hz hz2 ok2
      obtain ⟨o1, o2, o3, o4⟩ := ok
      have eq : ∀ a j, (a < 52 ∨ 55 < a ∨ j ≠ T) ∧ (a ≠ 51 ∨ j ≠ 5) ∧ (a ≠ 87 ∨ (j ≠ 2 ∧ j ≠ 22)) ∧ (a < 101 ∨ 103 < a ∨ j ≠ T) → gi2 a j = gi a j := fun a j h => by
        rw [f1, e1]
        repeat rw [zs_no (by omega)]
      have q55 : gi2 55 T = -1 := by
        rw [f1, e1]; repeat rw [zs_no (by omega)]
        exact zs_eq _ _ _ _
      have q52 : gi2 52 T = a := by
        rw [f1, e1]; repeat rw [zs_no (by omega)]
        exact zs_eq _ _ _ _
      have q53 : gi2 53 T = b := by
        rw [f1, e1]; repeat rw [zs_no (by omega)]
        exact zs_eq _ _ _ _
      have q54 : gi2 54 T = c := by
        rw [f1, e1]; repeat rw [zs_no (by omega)]
        exact zs_eq _ _ _ _
      have q101 : gi2 101 T = a := by rw [f1, zs_no (by omega), zs_no (by omega), zs_no (by omega), zs_eq]
      have q102 : gi2 102 T = b := by rw [f1, zs_no (by omega), zs_no (by omega), zs_eq]
      have q103 : gi2 103 T = c := by rw [f1, zs_no (by omega), zs_eq]
      refine ⟨V, W, Pn, E, K, Rd, Ps, (T + 1), Tp, zI1_cg (fun a j hR => eq a j (by unfold zR1 at hR; omega)) h1, zI2_cg (fun a j hR => eq a j (by unfold zR2 at hR; omega)) h2, zI3_cg (fun a j hR => eq a j (by unfold zR3 at hR; omega)) h3, zI4_cg (fun a j hR => eq a j (by unfold zR4 at hR; omega)) h4, zI5_cg (fun a j hR => eq a j (by unfold zR5 at hR; omega)) h5, zI6_cg (fun a j hR => eq a j (by unfold zR6 at hR; omega)) h6, zI7_cg (fun a j hR => eq a j (by unfold zR7 at hR; omega)) h7, zI8_cg (fun a j hR => eq a j (by unfold zR8 at hR; omega)) h8, ⟨?_, by omega, ?_, fun i hi => ?_⟩, zI10_cg (fun a j hR => eq a j (by unfold zR10 at hR; omega)) h10, zI11_cg (fun a j hR => eq a j (by unfold zR11 at hR; omega)) h11, zI12_cg (fun a j hR => eq a j (by unfold zR12 at hR; omega)) h12, zC8_cg (fun a j hR => eq a j (by unfold zR13 at hR; omega)) h13⟩
      · rw [f1, e1]; repeat rw [zs_no (by omega)]
        exact zs_eq _ _ _ _
      · rw [f1]; exact zs_eq _ _ _ _
      · by_cases q : i = T
        · subst q
          rw [q55, q52, q53, q54, q101, q102, q103]
          exact Or.inl ⟨rfl, rfl, rfl, rfl, zx_mono (zx_in o1 (by omega)) hV, zx_wi o2 (by decide), zx_wi o3 (by decide)⟩
        · rw [eq 52 i (by omega), eq 53 i (by omega), eq 54 i (by omega), eq 55 i (by omega), eq 101 i (by omega), eq 102 i (by omega), eq 103 i (by omega)]; exact h9.2.2.2 i (by omega)
    · exact absurd ok no2
  · subst e1 e2
    refine ⟨r, e3, _, ct_rReport g gi' gl' r (V := V) (T := T) h1.2.2.1 h1.2.1 h9.2.2.1 h9.2.1 a b c, ?_⟩
    rintro z2 gi2 gl2 gr2 (⟨ok2, hz2, f1, f2, f3⟩ | ⟨no2, hz2, f1, f2, f3⟩)
    · exact absurd ok2 no
    · exact ⟨hz2.trans hz.symm, by rw [f1]; exact zIv_thr hI _, r, f3⟩
theorem pr_strike (g : zm_G) (gi : zm_I) (gl : zm_J) (r : Nat) (hI : zIv gi) (a : Int32) : zPr g yX10_strike mX10_strike 1 yX11_strike mX11_strike 0 [.int a] gi gl r := by
  obtain ⟨V, W, Pn, E, K, Rd, Ps, T, Tp, h1, h2, h3, h4, h5, h6, h7, h8, h9, h10, h11, h12, h13⟩ := id hI
  have hV := h1.2.1
  have hW := h3.2.1
  have hPn := h4.2.1
  have hE := h6.2.1
  have hK := h7.2.1
  have hRd := h2.2.1
  have hPs := h2.2.2.2.2.2.2.1
  have hT := h9.2.1
  have hTp := h10.2.1
  refine ⟨_, ct_strike g gi gl r h9.1 h9.2.1 a, ?_⟩
  rintro z gi' gl' gr' (⟨ok, hz, e1, e2, e3⟩ | ⟨no, hz, e1, e2, e3⟩)
  · subst e2
    refine ⟨r, e3, _, ct_rStrike g gi' gl' r (T := T) (by rw [e1]; rw [zs_no (by omega), zs_no (by omega)]; exact h9.2.2.1) h9.2.1 a, ?_⟩
    rintro z2 gi2 gl2 gr2 (⟨ok2, hz2, f1, f2, f3⟩ | ⟨no2, hz2, f1, f2, f3⟩)
    · refine ⟨hz2.trans hz.symm, ?_, r, f3⟩
      clear hz hz2 ok2
      obtain ⟨o1, o2⟩ := ok
      obtain ⟨j0, hj0, rfl⟩ := zin_nat ((zin_iff (by omega) a).mp o1) (by omega)
      have eq : ∀ a j, (a ≠ 55 ∨ j ≠ T) ∧ (a ≠ 51 ∨ j ≠ 5) ∧ (a ≠ 87 ∨ (j ≠ 2 ∧ j ≠ 22)) ∧ (a < 101 ∨ 102 < a ∨ j ≠ T) → gi2 a j = gi a j := fun a j h => by
        rw [f1, e1]
        repeat rw [zs_no (by omega)]
      have q55 : gi2 55 T = nI j0 := by
        rw [f1, e1]; repeat rw [zs_no (by omega)]
        exact zs_eq _ _ _ _
      have q101 : gi2 101 T = -1 := by rw [f1, zs_no (by omega), zs_no (by omega), zs_eq]
      have q102 : gi2 102 T = nI j0 := by rw [f1, zs_no (by omega), zs_eq]
      refine ⟨V, W, Pn, E, K, Rd, Ps, (T + 1), Tp, zI1_cg (fun a j hR => eq a j (by unfold zR1 at hR; omega)) h1, zI2_cg (fun a j hR => eq a j (by unfold zR2 at hR; omega)) h2, zI3_cg (fun a j hR => eq a j (by unfold zR3 at hR; omega)) h3, zI4_cg (fun a j hR => eq a j (by unfold zR4 at hR; omega)) h4, zI5_cg (fun a j hR => eq a j (by unfold zR5 at hR; omega)) h5, zI6_cg (fun a j hR => eq a j (by unfold zR6 at hR; omega)) h6, zI7_cg (fun a j hR => eq a j (by unfold zR7 at hR; omega)) h7, zI8_cg (fun a j hR => eq a j (by unfold zR8 at hR; omega)) h8, ⟨?_, by omega, ?_, fun i hi => ?_⟩, zI10_cg (fun a j hR => eq a j (by unfold zR10 at hR; omega)) h10, zI11_cg (fun a j hR => eq a j (by unfold zR11 at hR; omega)) h11, zI12_cg (fun a j hR => eq a j (by unfold zR12 at hR; omega)) h12, zC8_cg (fun a j hR => eq a j (by unfold zR13 at hR; omega)) h13⟩
      · rw [f1, e1]; repeat rw [zs_no (by omega)]
        exact zs_eq _ _ _ _
      · rw [f1]; exact zs_eq _ _ _ _
      · by_cases q : i = T
        · subst q
          rw [q55, q101, q102]
          exact Or.inr ⟨j0, hj0, rfl, rfl, rfl⟩
        · rw [eq 52 i (by omega), eq 53 i (by omega), eq 54 i (by omega), eq 55 i (by omega), eq 101 i (by omega), eq 102 i (by omega), eq 103 i (by omega)]; exact h9.2.2.2 i (by omega)
    · exact absurd ok no2
  · subst e1 e2
    refine ⟨r, e3, _, ct_rStrike g gi' gl' r (T := T) h9.2.2.1 h9.2.1 a, ?_⟩
    rintro z2 gi2 gl2 gr2 (⟨ok2, hz2, f1, f2, f3⟩ | ⟨no2, hz2, f1, f2, f3⟩)
    · exact absurd ok2 no
    · exact ⟨hz2.trans hz.symm, by rw [f1]; exact zIv_thr hI _, r, f3⟩
