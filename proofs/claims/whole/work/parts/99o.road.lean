/-! roads -/
theorem fRoadL_at (a b : Nat) (mi pb : Int32) (M : zm_I) (s : Nat) : ∀ n, fRoadL a b mi pb M n (14 + s) = if s < n ∧ nI s &&& pb = 0 then fShO a b mi 8 (M (14 + s)) else M (14 + s)
  | 0 => by rw [if_neg (by omega)]; rfl
  | n + 1 => by
    have ih := fRoadL_at a b mi pb M s n
    show fRoadS a b mi pb (fRoadL a b mi pb M n) n (14 + s) = _
    unfold fRoadS
    by_cases e : s = n
    · subst e
      rw [if_neg (fun q => absurd q.1 (Nat.lt_irrefl _))] at ih
      by_cases c : nI s &&& pb = 0
      · rw [if_pos c, va_up_self, ih, if_pos ⟨Nat.lt_succ_self _, c⟩]
      · rw [if_neg c, ih, if_neg (fun q => c q.2)]
    · have e2 : (if nI n &&& pb = 0 then va_up (fRoadL a b mi pb M n) (14 + n) (fShO a b mi 8 (fRoadL a b mi pb M n (14 + n))) else fRoadL a b mi pb M n) (14 + s) = fRoadL a b mi pb M n (14 + s) := by
        split
        · exact zm_une (by omega)
        · rfl
      rw [e2, ih]
      by_cases c : s < n ∧ nI s &&& pb = 0
      · rw [if_pos c, if_pos ⟨by omega, c.2⟩]
      · rw [if_neg c, if_neg (fun q => c ⟨by omega, q.2⟩)]
theorem zRo_more {gi gi2 : zm_I} {Rd s A B l : Nat} (hA : A < 8) (hB : B < 8) (hl : l ≤ 600) (h90 : gi2 90 Rd = nI A) (h91 : gi2 91 Rd = nI B) (h92 : gi2 92 Rd = nI l) (old : ∀ i, i < Rd → gi2 90 i = gi 90 i ∧ gi2 91 i = gi 91 i ∧ gi2 92 i = gi 92 i ∧ gi2 93 i = gi 93 i) (hop : zOp gi2 s Rd) (x y d : Nat) : zMore (zRo gi Rd s) A B l x y d ↔ zRo gi2 (Rd + 1) s x y d := by
  constructor
  · rintro (⟨i, hi, q1, q2, q3⟩ | ⟨q1, q2, q3⟩ | ⟨q1, q2, q3⟩)
    · obtain ⟨a0, a1, a2, a3⟩ := old i hi
      refine ⟨i, by omega, ?_, ?_, ?_⟩
      · unfold zOp at q1 ⊢; rw [a3]; exact q1
      · rw [a0, a1]; exact q2
      · rw [a2]; exact q3
    · refine ⟨Rd, by omega, hop, Or.inl ?_, ?_⟩
      · rw [h90, h91, zi_nI (by omega), zi_nI (by omega)]; exact ⟨q1, q2⟩
      · rw [h92, zi_nI (by omega)]; exact q3
    · refine ⟨Rd, by omega, hop, Or.inr ?_, ?_⟩
      · rw [h90, h91, zi_nI (by omega), zi_nI (by omega)]; exact ⟨q1, q2⟩
      · rw [h92, zi_nI (by omega)]; exact q3
  · rintro ⟨i, hi, q1, q2, q3⟩
    by_cases e : i = Rd
    · subst e
      rw [h90, h91, zi_nI (by omega), zi_nI (by omega)] at q2
      rw [h92, zi_nI (by omega)] at q3
      rcases q2 with q2 | q2
      · exact Or.inr (Or.inl ⟨q2.1, q2.2, q3⟩)
      · exact Or.inr (Or.inr ⟨q2.1, q2.2, q3⟩)
    · obtain ⟨a0, a1, a2, a3⟩ := old i (by omega)
      refine Or.inl ⟨i, by omega, ?_, ?_, ?_⟩
      · unfold zOp at q1 ⊢; rw [a3] at q1; exact q1
      · rw [a0, a1] at q2; exact q2
      · rw [a2] at q3; exact q3
theorem zRo_same {gi gi2 : zm_I} {Rd s : Nat} (old : ∀ i, i < Rd → gi2 90 i = gi 90 i ∧ gi2 91 i = gi 91 i ∧ gi2 92 i = gi 92 i ∧ gi2 93 i = gi 93 i) (hop : ¬ zOp gi2 s Rd) (x y d : Nat) : zRo gi Rd s x y d ↔ zRo gi2 (Rd + 1) s x y d := by
  constructor
  · rintro ⟨i, hi, q1, q2, q3⟩
    obtain ⟨a0, a1, a2, a3⟩ := old i hi
    refine ⟨i, by omega, ?_, ?_, ?_⟩
    · unfold zOp at q1 ⊢; rw [a3]; exact q1
    · rw [a0, a1]; exact q2
    · rw [a2]; exact q3
  · rintro ⟨i, hi, q1, q2, q3⟩
    by_cases e : i = Rd
    · subst e; exact absurd q1 hop
    · obtain ⟨a0, a1, a2, a3⟩ := old i (by omega)
      refine ⟨i, by omega, ?_, ?_, ?_⟩
      · unfold zOp at q1 ⊢; rw [a3] at q1; exact q1
      · rw [a0, a1] at q2; exact q2
      · rw [a2] at q3; exact q3
theorem zpb0 : ∀ s, s < 4 → nI s &&& nI 0 = 0 := by decide
theorem zpb1 : ∀ s, s < 4 → ∀ P, P < 2 → (nI s &&& (nI 1 <<< (nI P &&& 31)) = 0 ↔ ¬ ((nI s >>> (nI P &&& 31)) &&& nI 1 = nI 1)) := by decide
/-- a road more: the tables -/
theorem zRoad {gi gi2 : zm_I} {V Rd A B l : Nat} {pb : Int32} (hV : V ≤ 8) (hA : A < V) (hB : B < V) (hl : l ≤ 600) (hw : zRw gi V Rd) (hT : ∀ s, s < 4 → zPt (gi (14 + s)) ∧ zTab (zRo gi Rd s) (zT8 (gi (14 + s)))) (h90 : gi2 90 Rd = nI A) (h91 : gi2 91 Rd = nI B) (h92 : gi2 92 Rd = nI l) (old : ∀ i, i < Rd → gi2 90 i = gi 90 i ∧ gi2 91 i = gi 91 i ∧ gi2 92 i = gi 92 i ∧ gi2 93 i = gi 93 i)
    (hop : ∀ s, s < 4 → (nI s &&& pb = 0 ↔ zOp gi2 s Rd)) (ht : ∀ s, s < 4 → gi2 (14 + s) = if s < 4 ∧ nI s &&& pb = 0 then fShO A B (nI l) 8 (gi (14 + s)) else gi (14 + s)) :
    zRw gi2 V (Rd + 1) ∧ ∀ s, s < 4 → zPt (gi2 (14 + s)) ∧ zTab (zRo gi2 (Rd + 1) s) (zT8 (gi2 (14 + s))) := by
  refine ⟨fun i hi => ?_, fun s hs => ?_⟩
  · by_cases e : i = Rd
    · subst e; exact ⟨A, B, l, hA, hB, hl, h90, h91, h92⟩
    · obtain ⟨a0, a1, a2, _⟩ := old i (by omega)
      obtain ⟨A', B', l', q1, q2, q3, q4, q5, q6⟩ := hw i (by omega)
      exact ⟨A', B', l', q1, q2, q3, a0.trans q4, a1.trans q5, a2.trans q6⟩
  · have h8 : ∀ x y d, zRo gi Rd s x y d → x < 8 ∧ y < 8 := by
      rintro x y d ⟨i, hi, _, q2, _⟩
      obtain ⟨A', B', l', q3, q4, q5, q6, q7, q8⟩ := hw i hi
      rw [q6, q7, zi_nI (by omega), zi_nI (by omega)] at q2
      omega
    obtain ⟨t1, t2⟩ := hT s hs
    rw [ht s hs]
    by_cases c : nI s &&& pb = 0
    · rw [if_pos ⟨hs, c⟩]
      obtain ⟨u1, u2⟩ := fShO_tab (show A < 8 by omega) (show B < 8 by omega) hl h8 t1 t2
      exact ⟨u1, zTab_cong (fun x y d => zRo_more (by omega) (by omega) hl h90 h91 h92 old ((hop s hs).mp c) x y d) u2⟩
    · rw [if_neg (fun q => c q.2)]
      exact ⟨t1, zTab_cong (fun x y d => zRo_same old (fun q => c ((hop s hs).mpr q)) x y d) t2⟩
theorem fAddRoad_q (gi : zm_I) (Ps Rd A B : Nat) (m s : Int32) {a : Nat} (h : a ≠ 3) (h2 : a < 14 ∨ 18 < a) : fAddRoad gi Ps Rd A B m s a = gi a := by
  unfold fAddRoad
  split
  · rw [zs_nq h, fRoadL_nq _ _ _ _ _ 4 (by omega)]
  · rw [zs_nq h, fRoadL_nq _ _ _ _ _ 4 (by omega), zs_nq h, zs_nq (by omega)]
theorem pr_road (g : zm_G) (gi : zm_I) (gl : zm_J) (r : Nat) (hI : zIv gi) (a b m s : Int32) : zPr g yX10_road mX10_road 3 yX11_road mX11_road 1 [.int a, .int b, .int m, .int s] gi gl r := by
  obtain ⟨V, W, Pn, E, K, Rd, Ps, T, Tp, h1, h2, h3, h4, h5, h6, h7, h8, h9, h10, h11, h12, h13⟩ := id hI
  have hV := h1.2.1
  have hW := h3.2.1
  have hPn := h4.2.1
  have hE := h6.2.1
  have hK := h7.2.1
  have hRd := h2.2.1
  have hPs := h2.2.2.2.2.2.2.1
  have hT := h9.2.1
  have hTp := h10.2.1
  refine ⟨_, ct_road g gi gl r h1.1 h1.2.1 h2.1 h2.2.1 h2.2.2.2.2.2.1 h2.2.2.2.2.2.2.1 a b m s, ?_⟩
  rintro z gi' gl' gr' (⟨ok, hz, e1, e2, e3⟩ | ⟨no, hz, e1, e2, e3⟩)
  · subst e2
    refine ⟨r, e3, _, ct_rRoad g gi' gl' r (V := V) (Rd := Rd) (Ps := Ps) (by rw [e1, fAddRoad_q _ _ _ _ _ _ _ (by decide) (by decide)]; exact h1.2.2.1) h1.2.1 (by rw [e1, fAddRoad_q _ _ _ _ _ _ _ (by decide) (by decide)]; exact h2.2.2.1) h2.2.1 (by rw [e1, fAddRoad_q _ _ _ _ _ _ _ (by decide) (by decide)]; exact h2.2.2.2.2.2.2.2.1) h2.2.2.2.2.2.2.1 a b m s, ?_⟩
    rintro z2 gi2 gl2 gr2 (⟨ok2, hz2, f1, f2, f3⟩ | ⟨no2, hz2, f1, f2, f3⟩)
    · refine ⟨hz2.trans hz.symm, ?_, r, f3⟩
      clear hz hz2 ok2
      obtain ⟨o1, o2, o3, ⟨o4, o5⟩, ⟨o6, o7⟩, o8, o9⟩ := ok
      obtain ⟨A, hA, rfl⟩ := zin_nat o1 (by omega)
      obtain ⟨B, hB, rfl⟩ := zin_nat o2 (by omega)
      obtain ⟨l, hl, rfl⟩ := zwi_nat ⟨nI_le01 o4, o5⟩ (by decide)
      rw [zi_nI (by omega), zi_nI (by omega)] at e1
      obtain ⟨w1, w2, w3, w4, w5, w6, w7, w8, w9⟩ := id h2
      have q3 : ∀ j, j ≠ 4 → j ≠ 5 → gi' 3 j = gi 3 j := fun j k1 k2 => by
        rw [e1]
        unfold fAddRoad
        split
        · rw [zs_nj k1, fRoadL_nq _ _ _ _ _ 4 (by omega)]
        · rw [zs_nj k1, fRoadL_nq _ _ _ _ _ 4 (by omega), zs_nj k2, zs_nq (by decide)]
      have eq : ∀ a j, (a ≠ 3 ∨ (j ≠ 4 ∧ j ≠ 5)) ∧ (a < 14 ∨ 18 < a) ∧ (a ≠ 87 ∨ (j ≠ 2 ∧ j ≠ 5 ∧ j ≠ 10)) ∧ (a < 90 ∨ 94 < a) → gi2 a j = gi a j := fun a j h => by
        have e5 : gi2 a j = gi' a j := by
          rw [f1]
          unfold rRoad rRd0
          split <;> (repeat rw [zs_no (by omega)])
        rw [e5]
        by_cases k : a = 3
        · subst k; exact q3 j (by omega) (by omega)
        · rw [e1, fAddRoad_q _ _ _ _ _ _ _ k (by omega)]
      by_cases hs : s ≤ 0
      · have eM : gi' = zs (fRoadL A B (nI l) (nI 0) gi 4) 3 4 (nI (Rd + 1)) := by rw [e1]; unfold fAddRoad; rw [if_pos hs]
        have eN : gi2 = zs (rRd0 gi' Rd (nI A) (nI B) (nI l)) 87 5 (nI (Rd + 1)) := by rw [f1]; unfold rRoad; rw [if_pos hs]
        have e9 : ∀ a j, (90 ≤ a ∧ a ≤ 93) → j < Rd → gi2 a j = gi a j := fun a j k1 k2 => by
          rw [eN]; unfold rRd0; rw [zs_no (by omega), zs_no (by omega), zs_no (by omega), zs_no (by omega), zs_no (by omega), zs_no (by omega), e1, fAddRoad_q _ _ _ _ _ _ _ (by omega) (by omega)]
        have h93 : gi2 93 Rd = -1 := by rw [eN]; unfold rRd0; rw [zs_no (by omega), zs_eq]
        obtain ⟨u1, u2⟩ := zRoad (gi2 := gi2) (pb := nI 0) hV hA hB hl w4 w5 (by rw [eN]; unfold rRd0; rw [zs_no (by omega), zs_no (by omega), zs_no (by omega), zs_no (by omega), zs_eq]) (by rw [eN]; unfold rRd0; rw [zs_no (by omega), zs_no (by omega), zs_no (by omega), zs_eq]) (by rw [eN]; unfold rRd0; rw [zs_no (by omega), zs_no (by omega), zs_eq]) (fun i hi => ⟨e9 90 i (by omega) hi, e9 91 i (by omega) hi, e9 92 i (by omega) hi, e9 93 i (by omega) hi⟩) (fun t ht => ⟨fun _ => by unfold zOp; rw [h93]; exact Or.inl (by decide), fun _ => zpb0 t ht⟩) (fun t ht => by
          have e5 : gi2 (14 + t) = gi' (14 + t) := by rw [eN]; unfold rRd0; rw [zs_nq (by omega), zs_nq (by omega), zs_nq (by omega), zs_nq (by omega), zs_nq (by omega), zs_nq (by omega)]
          rw [e5, eM, zs_nq (by omega), fRoadL_at])
        refine ⟨V, W, Pn, E, K, (Rd + 1), Ps, T, Tp, zI1_cg (fun a j hR => eq a j (by unfold zR1 at hR; omega)) h1, ⟨?_, by omega, ?_, u1, u2, ?_, w7, ?_, fun k hk => ?_⟩, zI3_cg (fun a j hR => eq a j (by unfold zR3 at hR; omega)) h3, zI4_cg (fun a j hR => eq a j (by unfold zR4 at hR; omega)) h4, zI5_cg (fun a j hR => eq a j (by unfold zR5 at hR; omega)) h5, zI6_cg (fun a j hR => eq a j (by unfold zR6 at hR; omega)) h6, zI7_cg (fun a j hR => eq a j (by unfold zR7 at hR; omega)) h7, zI8_cg (fun a j hR => eq a j (by unfold zR8 at hR; omega)) h8, zI9_cg (fun a j hR => eq a j (by unfold zR9 at hR; omega)) h9, zI10_cg (fun a j hR => eq a j (by unfold zR10 at hR; omega)) h10, zI11_cg (fun a j hR => eq a j (by unfold zR11 at hR; omega)) h11, zI12_cg (fun a j hR => eq a j (by unfold zR12 at hR; omega)) h12, zC8_cg (fun a j hR => eq a j (by unfold zR13 at hR; omega)) h13⟩
        · rw [eN]; unfold rRd0; rw [zs_no (by omega), zs_no (by omega), zs_no (by omega), zs_no (by omega), zs_no (by omega), zs_no (by omega), eM, zs_eq]
        · rw [eN, zs_eq]
        · rw [eN]; unfold rRd0; rw [zs_no (by omega), zs_no (by omega), zs_no (by omega), zs_no (by omega), zs_no (by omega), zs_no (by omega), eM, zs_no (by omega), fRoadL_nq _ _ _ _ _ 4 (by omega)]; exact w6
        · rw [eN]; unfold rRd0; rw [zs_no (by omega), zs_no (by omega), zs_no (by omega), zs_no (by omega), zs_no (by omega), zs_no (by omega), e1, fAddRoad_q _ _ _ _ _ _ _ (by omega) (by omega)]; exact w8
        · have k94 : gi2 94 k = gi 94 k := by rw [eN]; unfold rRd0; rw [zs_no (by omega), zs_no (by omega), zs_no (by omega), zs_no (by omega), zs_no (by omega), zs_no (by omega), e1, fAddRoad_q _ _ _ _ _ _ _ (by omega) (by omega)]
          have k18 : gi2 18 k = gi 18 k := by rw [eN]; unfold rRd0; rw [zs_no (by omega), zs_no (by omega), zs_no (by omega), zs_no (by omega), zs_no (by omega), zs_no (by omega), eM, zs_no (by omega), fRoadL_nq _ _ _ _ _ 4 (by omega)]
          rw [k94, k18]; exact w9 k hk
      · have hP2 : Ps < 2 := by rcases o9 with q | q; exact absurd q hs; exact q
        obtain ⟨x, hx, rfl⟩ := zwi_nat ⟨o6, o7⟩ (by decide)
        have hx1 : 1 ≤ x := by
          rcases Nat.eq_zero_or_pos x with q | q
          · subst q; exact absurd (by decide) hs
          · exact q
        have eM : gi' = zs (fRoadL A B (nI l) (nI 1 <<< (nI Ps &&& 31)) (zs (zs gi 18 Ps (nI x)) 3 5 (nI (Ps + 1))) 4) 3 4 (nI (Rd + 1)) := by rw [e1]; unfold fAddRoad; rw [if_neg hs]
        have eN : gi2 = zs (zs (zs (zs (rRd0 gi' Rd (nI A) (nI B) (nI l)) 93 Rd (nI Ps)) 94 Ps (nI x)) 87 10 (nI (Ps + 1))) 87 5 (nI (Rd + 1)) := by rw [f1]; unfold rRoad; rw [if_neg hs]
        have e9 : ∀ a j, (90 ≤ a ∧ a ≤ 93) → j < Rd → gi2 a j = gi a j := fun a j k1 k2 => by
          rw [eN]; unfold rRd0; repeat rw [zs_no (by omega)]
          rw [e1, fAddRoad_q _ _ _ _ _ _ _ (by omega) (by omega)]
        have h93 : gi2 93 Rd = nI Ps := by rw [eN]; rw [zs_no (by omega), zs_no (by omega), zs_no (by omega), zs_eq]
        obtain ⟨u1, u2⟩ := zRoad (gi2 := gi2) (pb := nI 1 <<< (nI Ps &&& 31)) hV hA hB hl w4 w5 (by
          rw [eN]; unfold rRd0; repeat rw [zs_no (by omega)]
          exact zs_eq _ _ _ _) (by
          rw [eN]; unfold rRd0; repeat rw [zs_no (by omega)]
          exact zs_eq _ _ _ _) (by
          rw [eN]; unfold rRd0; repeat rw [zs_no (by omega)]
          exact zs_eq _ _ _ _) (fun i hi => ⟨e9 90 i (by omega) hi, e9 91 i (by omega) hi, e9 92 i (by omega) hi, e9 93 i (by omega) hi⟩) (fun t ht => by
          unfold zOp
          rw [h93, zpb1 t ht Ps hP2]
          exact ⟨fun q => Or.inr q, fun q => q.elim (fun z => absurd z (Int32.not_lt.mpr (nI_pos' (by omega)))) id⟩) (fun t ht => by
          have e5 : gi2 (14 + t) = gi' (14 + t) := by rw [eN]; unfold rRd0; rw [zs_nq (by omega), zs_nq (by omega), zs_nq (by omega), zs_nq (by omega), zs_nq (by omega), zs_nq (by omega), zs_nq (by omega), zs_nq (by omega), zs_nq (by omega)]
          rw [e5, eM, zs_nq (by omega), fRoadL_at, zs_nq (by omega), zs_nq (by omega)])
        refine ⟨V, W, Pn, E, K, (Rd + 1), (Ps + 1), T, Tp, zI1_cg (fun a j hR => eq a j (by unfold zR1 at hR; omega)) h1, ⟨?_, by omega, ?_, u1, u2, ?_, by omega, ?_, fun k hk => ?_⟩, zI3_cg (fun a j hR => eq a j (by unfold zR3 at hR; omega)) h3, zI4_cg (fun a j hR => eq a j (by unfold zR4 at hR; omega)) h4, zI5_cg (fun a j hR => eq a j (by unfold zR5 at hR; omega)) h5, zI6_cg (fun a j hR => eq a j (by unfold zR6 at hR; omega)) h6, zI7_cg (fun a j hR => eq a j (by unfold zR7 at hR; omega)) h7, zI8_cg (fun a j hR => eq a j (by unfold zR8 at hR; omega)) h8, zI9_cg (fun a j hR => eq a j (by unfold zR9 at hR; omega)) h9, zI10_cg (fun a j hR => eq a j (by unfold zR10 at hR; omega)) h10, zI11_cg (fun a j hR => eq a j (by unfold zR11 at hR; omega)) h11, zI12_cg (fun a j hR => eq a j (by unfold zR12 at hR; omega)) h12, zC8_cg (fun a j hR => eq a j (by unfold zR13 at hR; omega)) h13⟩
        · rw [eN]; unfold rRd0; repeat rw [zs_no (by omega)]
          rw [eM, zs_eq]
        · rw [eN, zs_eq]
        · rw [eN]; unfold rRd0; repeat rw [zs_no (by omega)]
          rw [eM, zs_no (by omega), fRoadL_nq _ _ _ _ _ 4 (by omega), zs_eq]
        · rw [eN, zs_no (by omega), zs_eq]
        · by_cases e : k = Ps
          · subst e
            have k94 : gi2 94 k = nI x := by rw [eN, zs_no (by omega), zs_no (by omega), zs_eq]
            have k18 : gi2 18 k = nI x := by
              rw [eN]; unfold rRd0; repeat rw [zs_no (by omega)]
              rw [eM, zs_no (by omega), fRoadL_nq _ _ _ _ _ 4 (by omega), zs_no (by omega), zs_eq]
            rw [k94, k18]
            exact ⟨rfl, x, hx1, hx, rfl⟩
          · have k94 : gi2 94 k = gi 94 k := by
              rw [eN]; unfold rRd0; repeat rw [zs_no (by omega)]
              rw [e1, fAddRoad_q _ _ _ _ _ _ _ (by omega) (by omega)]
            have k18 : gi2 18 k = gi 18 k := by
              rw [eN]; unfold rRd0; repeat rw [zs_no (by omega)]
              rw [eM, zs_no (by omega), fRoadL_nq _ _ _ _ _ 4 (by omega), zs_no (by omega), zs_no (by omega)]
            rw [k94, k18]; exact w9 k (by omega)
    · exact absurd ok no2
  · subst e1 e2
    refine ⟨r, e3, _, ct_rRoad g gi' gl' r (V := V) (Rd := Rd) (Ps := Ps) h1.2.2.1 h1.2.1 h2.2.2.1 h2.2.1 h2.2.2.2.2.2.2.2.1 h2.2.2.2.2.2.2.1 a b m s, ?_⟩
    rintro z2 gi2 gl2 gr2 (⟨ok2, hz2, f1, f2, f3⟩ | ⟨no2, hz2, f1, f2, f3⟩)
    · exact absurd ok2 no
    · exact ⟨hz2.trans hz.symm, by rw [f1]; exact zIv_thr hI _, r, f3⟩
