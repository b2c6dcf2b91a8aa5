theorem zBy_of (y : Int32) : zBy (y.toInt8.toInt32.toInt8.toInt32) (y &&& nI 255) := by
  rw [Int8.toInt8_toInt32, show (nI 255) = (255 : Int32) from by decide]
  have h2 : (y.toInt8.toInt32).toInt = y.toInt.bmod 256 := by rw [Int8.toInt_toInt32, Int32.toInt_toInt8]
  have h3 : (y &&& 255).toInt = ((y.toBitVec.toNat % 256 : Nat) : Int) := by
    have e : (y &&& 255).toBitVec.toNat = y.toBitVec.toNat % 256 := by
      rw [Int32.toBitVec_and, BitVec.toNat_and]
      exact Nat.and_two_pow_sub_one_eq_mod _ 8
    rw [← Int32.toInt_toBitVec, BitVec.toInt_eq_toNat_cond, if_pos (by rw [e]; omega), e]
  have h4 : y.toInt.bmod 256 = ((y.toBitVec.toNat : Nat) : Int).bmod 256 := by
    rw [← Int32.toInt_toBitVec, BitVec.toInt_eq_toNat_bmod]
    exact Int.bmod_bmod_of_dvd (by decide)
  rw [h4] at h2
  generalize y.toBitVec.toNat = n at h2 h3
  have c : ((n : Nat) : Int).bmod 256 = if n % 256 < 128 then ((n % 256 : Nat) : Int) else ((n % 256 : Nat) : Int) - 256 := by
    rw [Int.bmod_def]
    omega
  rw [c] at h2
  by_cases h : n % 256 < 128
  · rw [if_pos h] at h2
    exact Or.inl ⟨by omega, by omega, Int32.toInt_inj.mp (by omega)⟩
  · rw [if_neg h] at h2
    exact Or.inr ⟨by omega, by omega⟩
theorem fPut4_q (gi : zm_I) (T : Nat) (x : Int32) {a : Nat} (h0 : a ≠ 0) (h1 : a ≠ 1) : fPut4 gi T x a = gi a := by
  unfold fPut4
  rw [zs_nq h0, zs_nq h1, zs_nq h0, zs_nq h1, zs_nq h0, zs_nq h1, zs_nq h0, zs_nq h1]
theorem fPut4_0 (gi : zm_I) (T : Nat) (x : Int32) : fPut4 gi T x 0 10 = nI (T + 4) := by
  unfold fPut4
  rw [zs_eq]
theorem fPut4_0n (gi : zm_I) (T : Nat) (x : Int32) {j : Nat} (h : j ≠ 10) : fPut4 gi T x 0 j = gi 0 j := by
  unfold fPut4
  rw [zs_nj h, zs_nq (by decide), zs_nj h, zs_nq (by decide), zs_nj h, zs_nq (by decide), zs_nj h, zs_nq (by decide)]
theorem fPut4_n (gi : zm_I) (T : Nat) (x : Int32) {j : Nat} (h : j < T ∨ T + 4 ≤ j) : fPut4 gi T x 1 j = gi 1 j := by
  unfold fPut4
  rw [zs_nq (by decide), zs_nj (by omega), zs_nq (by decide), zs_nj (by omega), zs_nq (by decide), zs_nj (by omega), zs_nq (by decide), zs_nj (by omega)]
def fByt (x : Int32) (q : Nat) : Int32 := (x >>> (nI (24 - 8 * q) &&& 31)).toInt8.toInt32.toInt8.toInt32
theorem fPut4_at (gi : zm_I) (T : Nat) (x : Int32) {j : Nat} (q : Nat) (hq : q < 4) (h : j = T + q) : fPut4 gi T x 1 j = fByt x q := by
  subst h
  unfold fPut4
  rcases (show q = 0 ∨ q = 1 ∨ q = 2 ∨ q = 3 by omega) with e | e | e | e <;> subst e
  · rw [zs_nq (by decide), zs_nj (by omega), zs_nq (by decide), zs_nj (by omega), zs_nq (by decide), zs_nj (by omega), zs_nq (by decide), zs_eq]; rfl
  · rw [zs_nq (by decide), zs_nj (by omega), zs_nq (by decide), zs_nj (by omega), zs_nq (by decide), zs_eq]; rfl
  · rw [zs_nq (by decide), zs_nj (by omega), zs_nq (by decide), zs_eq]; rfl
  · rw [zs_nq (by decide), zs_eq]; rfl
theorem zBy_byt (x : Int32) (q : Nat) : zBy (fByt x q) (x >>> (nI (24 - 8 * q) &&& 31) &&& nI 255) := zBy_of _
theorem fFeed_at (gi : zm_I) (T : Nat) (a b c d e : Int32) {i : Nat} (h : i < 20) : zBy (fFeed gi T a b c d e 1 (T + i)) (rFeed (fFeed gi T a b c d e) T a b c d e 88 (T + i)) := by
  generalize hM : fFeed gi T a b c d e = M
  have hr : ∀ j, rFeed M T a b c d e 88 j = rFeed M T a b c d e 88 j := fun _ => rfl
  rcases (show i = 0 ∨ i = 1 ∨ i = 2 ∨ i = 3 ∨ i = 4 ∨ i = 5 ∨ i = 6 ∨ i = 7 ∨ i = 8 ∨ i = 9 ∨ i = 10 ∨ i = 11 ∨ i = 12 ∨ i = 13 ∨ i = 14 ∨ i = 15 ∨ i = 16 ∨ i = 17 ∨ i = 18 ∨ i = 19 by omega) with q | q | q | q | q | q | q | q | q | q | q | q | q | q | q | q | q | q | q | q <;> subst q
  · rw [show M 1 (T + 0) = fByt a 0 from by rw [← hM]; unfold fFeed; rw [fPut4_n _ _ _ (by omega), fPut4_n _ _ _ (by omega), fPut4_n _ _ _ (by omega), fPut4_n _ _ _ (by omega), fPut4_at _ _ _ 0 (by decide) (by omega)]]
    unfold rFeed
    rw [zs_nq (by decide), zs_nj (by omega), zs_nj (by omega), zs_nj (by omega), zs_nj (by omega), zs_nj (by omega), zs_nj (by omega), zs_nj (by omega), zs_nj (by omega), zs_nj (by omega), zs_nj (by omega), zs_nj (by omega), zs_nj (by omega), zs_nj (by omega), zs_nj (by omega), zs_nj (by omega), zs_nj (by omega), zs_nj (by omega), zs_nj (by omega), zs_nj (by omega), zs_eq]
    exact zBy_byt a 0
  · rw [show M 1 (T + 1) = fByt a 1 from by rw [← hM]; unfold fFeed; rw [fPut4_n _ _ _ (by omega), fPut4_n _ _ _ (by omega), fPut4_n _ _ _ (by omega), fPut4_n _ _ _ (by omega), fPut4_at _ _ _ 1 (by decide) (by omega)]]
    unfold rFeed
    rw [zs_nq (by decide), zs_nj (by omega), zs_nj (by omega), zs_nj (by omega), zs_nj (by omega), zs_nj (by omega), zs_nj (by omega), zs_nj (by omega), zs_nj (by omega), zs_nj (by omega), zs_nj (by omega), zs_nj (by omega), zs_nj (by omega), zs_nj (by omega), zs_nj (by omega), zs_nj (by omega), zs_nj (by omega), zs_nj (by omega), zs_nj (by omega), zs_eq]
    exact zBy_byt a 1
  · rw [show M 1 (T + 2) = fByt a 2 from by rw [← hM]; unfold fFeed; rw [fPut4_n _ _ _ (by omega), fPut4_n _ _ _ (by omega), fPut4_n _ _ _ (by omega), fPut4_n _ _ _ (by omega), fPut4_at _ _ _ 2 (by decide) (by omega)]]
    unfold rFeed
    rw [zs_nq (by decide), zs_nj (by omega), zs_nj (by omega), zs_nj (by omega), zs_nj (by omega), zs_nj (by omega), zs_nj (by omega), zs_nj (by omega), zs_nj (by omega), zs_nj (by omega), zs_nj (by omega), zs_nj (by omega), zs_nj (by omega), zs_nj (by omega), zs_nj (by omega), zs_nj (by omega), zs_nj (by omega), zs_nj (by omega), zs_eq]
    exact zBy_byt a 2
  · rw [show M 1 (T + 3) = fByt a 3 from by rw [← hM]; unfold fFeed; rw [fPut4_n _ _ _ (by omega), fPut4_n _ _ _ (by omega), fPut4_n _ _ _ (by omega), fPut4_n _ _ _ (by omega), fPut4_at _ _ _ 3 (by decide) (by omega)]]
    unfold rFeed
    rw [zs_nq (by decide), zs_nj (by omega), zs_nj (by omega), zs_nj (by omega), zs_nj (by omega), zs_nj (by omega), zs_nj (by omega), zs_nj (by omega), zs_nj (by omega), zs_nj (by omega), zs_nj (by omega), zs_nj (by omega), zs_nj (by omega), zs_nj (by omega), zs_nj (by omega), zs_nj (by omega), zs_nj (by omega), zs_eq]
    exact zBy_byt a 3
  · rw [show M 1 (T + 4) = fByt b 0 from by rw [← hM]; unfold fFeed; rw [fPut4_n _ _ _ (by omega), fPut4_n _ _ _ (by omega), fPut4_n _ _ _ (by omega), fPut4_at _ _ _ 0 (by decide) (by omega)]]
    unfold rFeed
    rw [zs_nq (by decide), zs_nj (by omega), zs_nj (by omega), zs_nj (by omega), zs_nj (by omega), zs_nj (by omega), zs_nj (by omega), zs_nj (by omega), zs_nj (by omega), zs_nj (by omega), zs_nj (by omega), zs_nj (by omega), zs_nj (by omega), zs_nj (by omega), zs_nj (by omega), zs_nj (by omega), zs_eq]
    exact zBy_byt b 0
  · rw [show M 1 (T + 5) = fByt b 1 from by rw [← hM]; unfold fFeed; rw [fPut4_n _ _ _ (by omega), fPut4_n _ _ _ (by omega), fPut4_n _ _ _ (by omega), fPut4_at _ _ _ 1 (by decide) (by omega)]]
    unfold rFeed
    rw [zs_nq (by decide), zs_nj (by omega), zs_nj (by omega), zs_nj (by omega), zs_nj (by omega), zs_nj (by omega), zs_nj (by omega), zs_nj (by omega), zs_nj (by omega), zs_nj (by omega), zs_nj (by omega), zs_nj (by omega), zs_nj (by omega), zs_nj (by omega), zs_nj (by omega), zs_eq]
    exact zBy_byt b 1
  · rw [show M 1 (T + 6) = fByt b 2 from by rw [← hM]; unfold fFeed; rw [fPut4_n _ _ _ (by omega), fPut4_n _ _ _ (by omega), fPut4_n _ _ _ (by omega), fPut4_at _ _ _ 2 (by decide) (by omega)]]
    unfold rFeed
    rw [zs_nq (by decide), zs_nj (by omega), zs_nj (by omega), zs_nj (by omega), zs_nj (by omega), zs_nj (by omega), zs_nj (by omega), zs_nj (by omega), zs_nj (by omega), zs_nj (by omega), zs_nj (by omega), zs_nj (by omega), zs_nj (by omega), zs_nj (by omega), zs_eq]
    exact zBy_byt b 2
  · rw [show M 1 (T + 7) = fByt b 3 from by rw [← hM]; unfold fFeed; rw [fPut4_n _ _ _ (by omega), fPut4_n _ _ _ (by omega), fPut4_n _ _ _ (by omega), fPut4_at _ _ _ 3 (by decide) (by omega)]]
    unfold rFeed
    rw [zs_nq (by decide), zs_nj (by omega), zs_nj (by omega), zs_nj (by omega), zs_nj (by omega), zs_nj (by omega), zs_nj (by omega), zs_nj (by omega), zs_nj (by omega), zs_nj (by omega), zs_nj (by omega), zs_nj (by omega), zs_nj (by omega), zs_eq]
    exact zBy_byt b 3
  · rw [show M 1 (T + 8) = fByt c 0 from by rw [← hM]; unfold fFeed; rw [fPut4_n _ _ _ (by omega), fPut4_n _ _ _ (by omega), fPut4_at _ _ _ 0 (by decide) (by omega)]]
    unfold rFeed
    rw [zs_nq (by decide), zs_nj (by omega), zs_nj (by omega), zs_nj (by omega), zs_nj (by omega), zs_nj (by omega), zs_nj (by omega), zs_nj (by omega), zs_nj (by omega), zs_nj (by omega), zs_nj (by omega), zs_nj (by omega), zs_eq]
    exact zBy_byt c 0
  · rw [show M 1 (T + 9) = fByt c 1 from by rw [← hM]; unfold fFeed; rw [fPut4_n _ _ _ (by omega), fPut4_n _ _ _ (by omega), fPut4_at _ _ _ 1 (by decide) (by omega)]]
    unfold rFeed
    rw [zs_nq (by decide), zs_nj (by omega), zs_nj (by omega), zs_nj (by omega), zs_nj (by omega), zs_nj (by omega), zs_nj (by omega), zs_nj (by omega), zs_nj (by omega), zs_nj (by omega), zs_nj (by omega), zs_eq]
    exact zBy_byt c 1
  · rw [show M 1 (T + 10) = fByt c 2 from by rw [← hM]; unfold fFeed; rw [fPut4_n _ _ _ (by omega), fPut4_n _ _ _ (by omega), fPut4_at _ _ _ 2 (by decide) (by omega)]]
    unfold rFeed
    rw [zs_nq (by decide), zs_nj (by omega), zs_nj (by omega), zs_nj (by omega), zs_nj (by omega), zs_nj (by omega), zs_nj (by omega), zs_nj (by omega), zs_nj (by omega), zs_nj (by omega), zs_eq]
    exact zBy_byt c 2
  · rw [show M 1 (T + 11) = fByt c 3 from by rw [← hM]; unfold fFeed; rw [fPut4_n _ _ _ (by omega), fPut4_n _ _ _ (by omega), fPut4_at _ _ _ 3 (by decide) (by omega)]]
    unfold rFeed
    rw [zs_nq (by decide), zs_nj (by omega), zs_nj (by omega), zs_nj (by omega), zs_nj (by omega), zs_nj (by omega), zs_nj (by omega), zs_nj (by omega), zs_nj (by omega), zs_eq]
    exact zBy_byt c 3
  · rw [show M 1 (T + 12) = fByt d 0 from by rw [← hM]; unfold fFeed; rw [fPut4_n _ _ _ (by omega), fPut4_at _ _ _ 0 (by decide) (by omega)]]
    unfold rFeed
    rw [zs_nq (by decide), zs_nj (by omega), zs_nj (by omega), zs_nj (by omega), zs_nj (by omega), zs_nj (by omega), zs_nj (by omega), zs_nj (by omega), zs_eq]
    exact zBy_byt d 0
  · rw [show M 1 (T + 13) = fByt d 1 from by rw [← hM]; unfold fFeed; rw [fPut4_n _ _ _ (by omega), fPut4_at _ _ _ 1 (by decide) (by omega)]]
    unfold rFeed
    rw [zs_nq (by decide), zs_nj (by omega), zs_nj (by omega), zs_nj (by omega), zs_nj (by omega), zs_nj (by omega), zs_nj (by omega), zs_eq]
    exact zBy_byt d 1
  · rw [show M 1 (T + 14) = fByt d 2 from by rw [← hM]; unfold fFeed; rw [fPut4_n _ _ _ (by omega), fPut4_at _ _ _ 2 (by decide) (by omega)]]
    unfold rFeed
    rw [zs_nq (by decide), zs_nj (by omega), zs_nj (by omega), zs_nj (by omega), zs_nj (by omega), zs_nj (by omega), zs_eq]
    exact zBy_byt d 2
  · rw [show M 1 (T + 15) = fByt d 3 from by rw [← hM]; unfold fFeed; rw [fPut4_n _ _ _ (by omega), fPut4_at _ _ _ 3 (by decide) (by omega)]]
    unfold rFeed
    rw [zs_nq (by decide), zs_nj (by omega), zs_nj (by omega), zs_nj (by omega), zs_nj (by omega), zs_eq]
    exact zBy_byt d 3
  · rw [show M 1 (T + 16) = fByt e 0 from by rw [← hM]; unfold fFeed; rw [fPut4_at _ _ _ 0 (by decide) (by omega)]]
    unfold rFeed
    rw [zs_nq (by decide), zs_nj (by omega), zs_nj (by omega), zs_nj (by omega), zs_eq]
    exact zBy_byt e 0
  · rw [show M 1 (T + 17) = fByt e 1 from by rw [← hM]; unfold fFeed; rw [fPut4_at _ _ _ 1 (by decide) (by omega)]]
    unfold rFeed
    rw [zs_nq (by decide), zs_nj (by omega), zs_nj (by omega), zs_eq]
    exact zBy_byt e 1
  · rw [show M 1 (T + 18) = fByt e 2 from by rw [← hM]; unfold fFeed; rw [fPut4_at _ _ _ 2 (by decide) (by omega)]]
    unfold rFeed
    rw [zs_nq (by decide), zs_nj (by omega), zs_eq]
    exact zBy_byt e 2
  · rw [show M 1 (T + 19) = fByt e 3 from by rw [← hM]; unfold fFeed; rw [fPut4_at _ _ _ 3 (by decide) (by omega)]]
    unfold rFeed
    rw [zs_nq (by decide), zs_eq]
    exact zBy_byt e 3
theorem fFeed_q (gi : zm_I) (T : Nat) (a b c d e : Int32) {k : Nat} (h0 : k ≠ 0) (h1 : k ≠ 1) : fFeed gi T a b c d e k = gi k := by
  unfold fFeed
  rw [fPut4_q _ _ _ h0 h1, fPut4_q _ _ _ h0 h1, fPut4_q _ _ _ h0 h1, fPut4_q _ _ _ h0 h1, fPut4_q _ _ _ h0 h1]
theorem fFeed_0 (gi : zm_I) (T : Nat) (a b c d e : Int32) : fFeed gi T a b c d e 0 10 = nI (T + 20) := by
  unfold fFeed
  rw [fPut4_0]
theorem fFeed_n (gi : zm_I) (T : Nat) (a b c d e : Int32) {j : Nat} (h : j < T) : fFeed gi T a b c d e 1 j = gi 1 j := by
  unfold fFeed
  rw [fPut4_n _ _ _ (by omega), fPut4_n _ _ _ (by omega), fPut4_n _ _ _ (by omega), fPut4_n _ _ _ (by omega), fPut4_n _ _ _ (by omega)]
theorem fFeed_0n (gi : zm_I) (T : Nat) (a b c d e : Int32) {j : Nat} (h : j ≠ 10) : fFeed gi T a b c d e 0 j = gi 0 j := by
  unfold fFeed
  rw [fPut4_0n _ _ _ h, fPut4_0n _ _ _ h, fPut4_0n _ _ _ h, fPut4_0n _ _ _ h, fPut4_0n _ _ _ h]
theorem rFeed_o (M : zm_I) (T : Nat) (a b c d e : Int32) {k j : Nat} (h : k ≠ 88 ∨ j < T) (h2 : k ≠ 87 ∨ (j ≠ 1 ∧ j ≠ 2)) : rFeed M T a b c d e k j = M k j := by
  unfold rFeed
  repeat rw [zs_no (by omega)]
theorem rFeed_1 (M : zm_I) (T : Nat) (a b c d e : Int32) : rFeed M T a b c d e 87 1 = nI (T + 20) := by
  unfold rFeed
  repeat (first | rw [zs_no (by omega)] | rw [zs_eq])
theorem pr_feed (g : zm_G) (gi : zm_I) (gl : zm_J) (r : Nat) (hI : zIv gi) (a b c d e : Int32) : zPr g yX10_feed mX10_feed 1 yX11_feed mX11_feed 0 [.int a, .int b, .int c, .int d, .int e] gi gl r := by
  obtain ⟨V, W, Pn, E, K, Rd, Ps, T, Tp, h1, h2, h3, h4, h5, h6, h7, h8, h9, h10, h11, h12, h13⟩ := id hI
  have hV := h1.2.1
  have hW := h3.2.1
  have hPn := h4.2.1
  have hE := h6.2.1
  have hK := h7.2.1
  have hRd := h2.2.1
  have hPs := h2.2.2.2.2.2.2.1
  have hT := h9.2.1
  have hTp := h10.2.1
  refine ⟨_, ct_feed g gi gl r h10.1 h10.2.1 a b c d e, ?_⟩
  rintro z gi' gl' gr' (⟨ok, hz, e1, e2, e3⟩ | ⟨no, hz, e1, e2, e3⟩)
  · subst e2
    refine ⟨r, e3, _, ct_rFeed g gi' gl' r (T := Tp) (by rw [e1, fFeed_q _ _ _ _ _ _ _ (by decide) (by decide)]; exact h10.2.2.1) h10.2.1 a b c d e, ?_⟩
    rintro z2 gi2 gl2 gr2 (⟨ok2, hz2, f1, f2, f3⟩ | ⟨no2, hz2, f1, f2, f3⟩)
    · refine ⟨hz2.trans hz.symm, ?_, r, f3⟩
      clear hz hz2 ok2
      have eq : ∀ k j, (k ≠ 0 ∨ j ≠ 10) ∧ (k ≠ 1 ∨ j < Tp) ∧ (k ≠ 88 ∨ j < Tp) ∧ (k ≠ 87 ∨ (j ≠ 1 ∧ j ≠ 2)) → gi2 k j = gi k j := fun k j h => by
        rw [f1, rFeed_o _ _ _ _ _ _ _ (by omega) (by omega), e1]
        by_cases k0 : k = 0
        · subst k0; exact fFeed_0n _ _ _ _ _ _ _ (by omega)
        · by_cases k1 : k = 1
          · subst k1; exact fFeed_n _ _ _ _ _ _ _ (by omega)
          · rw [fFeed_q _ _ _ _ _ _ _ k0 k1]
      refine ⟨V, W, Pn, E, K, Rd, Ps, T, (Tp + 20), zI1_cg (fun a j hR => eq a j (by unfold zR1 at hR; omega)) h1, zI2_cg (fun a j hR => eq a j (by unfold zR2 at hR; omega)) h2, zI3_cg (fun a j hR => eq a j (by unfold zR3 at hR; omega)) h3, zI4_cg (fun a j hR => eq a j (by unfold zR4 at hR; omega)) h4, zI5_cg (fun a j hR => eq a j (by unfold zR5 at hR; omega)) h5, zI6_cg (fun a j hR => eq a j (by unfold zR6 at hR; omega)) h6, zI7_cg (fun a j hR => eq a j (by unfold zR7 at hR; omega)) h7, zI8_cg (fun a j hR => eq a j (by unfold zR8 at hR; omega)) h8, zI9_cg (fun a j hR => eq a j (by unfold zR9 at hR; omega)) h9, ⟨?_, ok, ?_, fun i hi => ?_⟩, zI11_cg (fun a j hR => eq a j (by unfold zR11 at hR; omega)) h11, zI12_cg (fun a j hR => eq a j (by unfold zR12 at hR; omega)) h12, zC8_cg (fun a j hR => eq a j (by unfold zR13 at hR; omega)) h13⟩
      · rw [f1, rFeed_o _ _ _ _ _ _ _ (by omega) (by omega), e1]; exact fFeed_0 _ _ _ _ _ _ _
      · rw [f1]; exact rFeed_1 _ _ _ _ _ _ _
      · by_cases q : i < Tp
        · rw [eq 1 i (by omega), eq 88 i (by omega)]; exact h10.2.2.2 i q
        · have := fFeed_at gi Tp a b c d e (i := i - Tp) (by omega)
          rw [show Tp + (i - Tp) = i by omega] at this
          rw [f1, rFeed_o (j := i) (k := 1) _ _ _ _ _ _ _ (by omega) (by omega), e1]
          exact this
    · exact absurd ok no2
  · subst e1 e2
    refine ⟨r, e3, _, ct_rFeed g gi' gl' r (T := Tp) h10.2.2.1 h10.2.1 a b c d e, ?_⟩
    rintro z2 gi2 gl2 gr2 (⟨ok2, hz2, f1, f2, f3⟩ | ⟨no2, hz2, f1, f2, f3⟩)
    · exact absurd ok2 no
    · exact ⟨hz2.trans hz.symm, by rw [f1]; exact zIv_thr hI _, r, f3⟩
theorem pr_fault (g : zm_G) (gi : zm_I) (gl : zm_J) (r : Nat) (hI : zIv gi) (a : Int32) : zPr g yX10_fault mX10_fault 0 yX11_fault mX11_fault 0 [.int a] gi gl r := by
  obtain ⟨V, W, Pn, E, K, Rd, Ps, T, Tp, h1, h2, h3, h4, h5, h6, h7, h8, h9, h10, h11, h12, h13⟩ := id hI
  refine ⟨_, ct_fault g gi gl r a, ?_⟩
  rintro z gi' gl' gr' ⟨hz, e1, e2, e3⟩
  subst e1 e2
  refine ⟨r, e3, _, ct_rFault g gi' gl' r a, ?_⟩
  rintro z2 gi2 gl2 gr2 ⟨hz2, f1, f2, f3⟩
  exact ⟨by rw [hz2, hz, h11.1, h11.2.1], by rw [f1]; exact zIv_thr hI _, r, f3⟩
theorem pr_count (g : zm_G) (gi : zm_I) (gl : zm_J) (r : Nat) (hI : zIv gi) (a : Int32) : zPr g yX10_count mX10_count 0 yX11_count mX11_count 0 [.int a] gi gl r := by
  obtain ⟨V, W, Pn, E, K, Rd, Ps, T, Tp, h1, h2, h3, h4, h5, h6, h7, h8, h9, h10, h11, h12, h13⟩ := id hI
  refine ⟨_, ct_count g gi gl r a, ?_⟩
  have hc : ∀ k, k ≤ 10 → rCnt gi k = fCnt gi k := fun k hk => by
    rcases (show k = 0 ∨ k = 1 ∨ k = 2 ∨ k = 3 ∨ k = 4 ∨ k = 5 ∨ k = 6 ∨ k = 7 ∨ k = 8 ∨ k = 9 ∨ k = 10 by omega) with q | q | q | q | q | q | q | q | q | q | q <;> subst q
    · exact h1.2.2.1.trans h1.1.symm
    · exact h2.2.2.1.trans h2.1.symm
    · exact h2.2.2.2.2.2.2.2.1.trans h2.2.2.2.2.2.1.symm
    · exact h3.2.2.1.trans h3.1.symm
    · exact h4.2.2.1.trans h4.1.symm
    · exact h6.2.2.1.trans h6.1.symm
    · exact h7.2.2.1.trans h7.1.symm
    · exact h9.2.2.1.trans h9.1.symm
    · exact h8.1
    · exact h8.2.1
    · exact h8.2.2.1
  rintro z gi' gl' gr' (⟨⟨k, hk, ha, hz⟩, e1, e2, e3⟩ | ⟨hq, hz, e1, e2, e3⟩)
  · subst e1 e2
    refine ⟨r, e3, _, ct_rCount g gi' gl' r a, ?_⟩
    rintro z2 gi2 gl2 gr2 (⟨⟨k2, hk2, ha2, hz2⟩, f1, f2, f3⟩ | ⟨hq2, hz2, f1, f2, f3⟩)
    · have : k2 = k := by
        have e := ha2.symm.trans ha
        rw [← zi_nI (n := k2) (by omega), ← zi_nI (n := k) (by omega), e]
      subst this
      exact ⟨by rw [hz2, hz, hc k2 hk], by rw [f1]; exact zIv_thr hI _, r, f3⟩
    · rw [ha, nI_toInt (by omega)] at hq2
      omega
  · subst e1 e2
    refine ⟨r, e3, _, ct_rCount g gi' gl' r a, ?_⟩
    rintro z2 gi2 gl2 gr2 (⟨⟨k2, hk2, ha2, hz2⟩, f1, f2, f3⟩ | ⟨hq2, hz2, f1, f2, f3⟩)
    · rw [ha2, nI_toInt (by omega)] at hq
      omega
    · exact ⟨hz2.trans hz.symm, by rw [f1]; exact zIv_thr hI _, r, f3⟩
theorem pr_rounded (g : zm_G) (gi : zm_I) (gl : zm_J) (r : Nat) (hI : zIv gi) (a : Int32) : zPr g yX10_rounded mX10_rounded 1 yX11_rounded mX11_rounded 1 [.int a] gi gl r := by
  obtain ⟨V, W, Pn, E, K, Rd, Ps, T, Tp, h1, h2, h3, h4, h5, h6, h7, h8, h9, h10, h11, h12, h13⟩ := id hI
  refine ⟨_, ct_rounded g gi gl r a, ?_⟩
  have hq : gi 75 8 = 0 ↔ gi 87 83 = 0 := by
    rcases h12 with ⟨q1, q2⟩ | ⟨q1, q2, _⟩
    · exact ⟨fun _ => q2, fun _ => q1⟩
    · exact ⟨fun q => absurd q q1, fun q => absurd q q2⟩
  rintro z gi' gl' gr' (⟨⟨o1, o2⟩, hz, e1, e2, e3⟩ | ⟨no, hz, e1, e2, e3⟩)
  · subst e1 e2
    refine ⟨r, e3, _, ct_rRounded g gi' gl' r a, ?_⟩
    rintro z2 gi2 gl2 gr2 (⟨ok2, hz2, f1, f2, f3⟩ | ⟨no2, hz2, f1, f2, f3⟩)
    · refine ⟨?_, by rw [f1]; exact zIv_thr hI _, r, f3⟩
      rcases h12 with ⟨q1, q2⟩ | ⟨q1, q2, q3, q4, q5⟩
      · exact absurd q1 o1
      · obtain ⟨k, hk, rfl⟩ := zwi_nat o2 (by decide)
        rw [hz2, hz, zi_nI (by omega)]
        unfold rRdd fRdd
        rw [q3, q4]
        by_cases c0 : k = 0
        · rw [if_pos c0, if_pos c0]
        · by_cases c4 : k = 4
          · rw [if_neg c0, if_neg c0, if_pos c4, if_pos c4]
          · rw [if_neg c0, if_neg c0, if_neg c4, if_neg c4]; exact q5 (k - 1) (by omega)
    · exact absurd ⟨fun q => o1 (hq.mpr q), o2⟩ no2
  · subst e1 e2
    refine ⟨r, e3, _, ct_rRounded g gi' gl' r a, ?_⟩
    rintro z2 gi2 gl2 gr2 (⟨ok2, hz2, f1, f2, f3⟩ | ⟨no2, hz2, f1, f2, f3⟩)
    · exact absurd ⟨fun q => ok2.1 (hq.mp q), ok2.2⟩ no
    · exact ⟨hz2.trans hz.symm, by rw [f1]; exact zIv_thr hI _, r, f3⟩
