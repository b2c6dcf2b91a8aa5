/-- the entries of all vans but one, in class and reference -/
theorem zClrA {C X : zm_I} {v : Int32} {W Pn E : Nat} (hE : E ≤ 24) (hn : zEn 27 W Pn E C) (h0 : X 87 18 = nI 0) (hx : ∀ e, e < E → X 99 (4 * e) = C 28 e ∧ X 99 (4 * e + 1) = C 29 e ∧ X 99 (4 * e + 2) = C 30 e ∧ X 99 (4 * e + 3) = C 31 e) :
    ∀ i, i ≤ E → ∃ K, K ≤ i ∧ fTakeLA C v i 27 8 = nI K ∧ zit (rClrS v) X i 87 18 = nI K ∧ (∀ e, e < K → zit (rClrS v) X i 99 (4 * e) = fTakeLA C v i 28 e ∧ zit (rClrS v) X i 99 (4 * e + 1) = fTakeLA C v i 29 e ∧ zit (rClrS v) X i 99 (4 * e + 2) = fTakeLA C v i 30 e ∧ zit (rClrS v) X i 99 (4 * e + 3) = fTakeLA C v i 31 e) ∧ (∀ j, 4 * i ≤ j → zit (rClrS v) X i 99 j = X 99 j) ∧ (∀ a, a ≠ 99 → a ≠ 87 → zit (rClrS v) X i a = X a) ∧ ∀ j, j ≠ 18 → zit (rClrS v) X i 87 j = X 87 j
  | 0, _ => ⟨0, Nat.le_refl _, by show fTake0A C 27 8 = _; unfold fTake0A; rw [zm_une (by decide), zs_eq], h0, fun e he => absurd he (Nat.not_lt_zero _), fun _ _ => rfl, fun _ _ _ => rfl, fun _ _ => rfl⟩
  | i + 1, hi => by
    obtain ⟨K, hK, k1, k2, k3, k4, k5, k6⟩ := zClrA hE hn h0 hx i (by omega) (v := v)
    obtain ⟨_, _, _, hf⟩ := fTakeLA_inv C v i (by omega)
    obtain ⟨⟨x1, x2⟩, ⟨y1, y2⟩, _, _⟩ := hn i (by omega)
    obtain ⟨e1, e2, e3, e4⟩ := hx i (by omega)
    have f28 : fTakeLA C v i 28 i = C 28 i := hf 28 i (Nat.le_refl _) (by decide) (by decide)
    have f29 : fTakeLA C v i 29 i = C 29 i := hf 29 i (Nat.le_refl _) (by decide) (by decide)
    have f30 : fTakeLA C v i 30 i = C 30 i := hf 30 i (Nat.le_refl _) (by decide) (by decide)
    have f31 : fTakeLA C v i 31 i = C 31 i := hf 31 i (Nat.le_refl _) (by decide) (by decide)
    have g1 := k4 (4 * i) (Nat.le_refl _)
    have g2 := k4 (4 * i + 1) (by omega)
    have g3 := k4 (4 * i + 2) (by omega)
    have g4 := k4 (4 * i + 3) (by omega)
    rw [e1] at g1
    rw [e2] at g2
    rw [e3] at g3
    rw [e4] at g4
    show ∃ K, K ≤ i + 1 ∧ fTakeSA C v (fTakeLA C v i) i 27 8 = nI K ∧ rClrS v (zit (rClrS v) X i) i 87 18 = nI K ∧ (∀ e, e < K → rClrS v (zit (rClrS v) X i) i 99 (4 * e) = fTakeSA C v (fTakeLA C v i) i 28 e ∧ rClrS v (zit (rClrS v) X i) i 99 (4 * e + 1) = fTakeSA C v (fTakeLA C v i) i 29 e ∧ rClrS v (zit (rClrS v) X i) i 99 (4 * e + 2) = fTakeSA C v (fTakeLA C v i) i 30 e ∧ rClrS v (zit (rClrS v) X i) i 99 (4 * e + 3) = fTakeSA C v (fTakeLA C v i) i 31 e) ∧ (∀ j, 4 * (i + 1) ≤ j → rClrS v (zit (rClrS v) X i) i 99 j = X 99 j) ∧ (∀ a, a ≠ 99 → a ≠ 87 → rClrS v (zit (rClrS v) X i) i a = X a) ∧ ∀ j, j ≠ 18 → rClrS v (zit (rClrS v) X i) i 87 j = X 87 j
    generalize zit (rClrS v) X i = Y at k2 k3 k4 k5 k6 g1 g2 g3 g4 ⊢
    generalize fTakeLA C v i = D at k1 k3 f28 f29 f30 f31 ⊢
    clear hf
    unfold fTakeSA rClrS
    rw [g2, f29]
    by_cases h : C 29 i = v
    · rw [if_pos h, if_pos h]
      exact ⟨K, by omega, k1, k2, k3, fun j hj => k4 j (by omega), k5, k6⟩
    · rw [if_neg h, if_neg h, k1, k2, zi_nI (by omega), f28, f30, f31, g1, g3, g4]
      have x1' : nI (zi (C 28 i)) = C 28 i := x1.symm
      have y1' : nI (zi (C 29 i)) = C 29 i := y1.symm
      unfold rSets
      refine ⟨K + 1, by omega, fAddEA_8 _ _ _ _ _ _, zs_eq _ _ _ _, fun e he => ?_, fun j hj => ?_, fun a ha hb => ?_, fun j hj => ?_⟩
      · by_cases c : e = K
        · subst c
          unfold fAddEA
          refine ⟨?_, ?_, ?_, ?_⟩ <;> simp [zs_at, x1', y1']
        · obtain ⟨m1, m2, m3, m4⟩ := k3 e (by omega)
          refine ⟨?_, ?_, ?_, ?_⟩
          · rw [zs_nq (by decide), zs_nj (by omega), zs_nj (by omega), zs_nj (by omega), zs_nj (by omega), fAddEA_far _ (by decide) (by decide) c]; exact m1
          · rw [zs_nq (by decide), zs_nj (by omega), zs_nj (by omega), zs_nj (by omega), zs_nj (by omega), fAddEA_far _ (by decide) (by decide) c]; exact m2
          · rw [zs_nq (by decide), zs_nj (by omega), zs_nj (by omega), zs_nj (by omega), zs_nj (by omega), fAddEA_far _ (by decide) (by decide) c]; exact m3
          · rw [zs_nq (by decide), zs_nj (by omega), zs_nj (by omega), zs_nj (by omega), zs_nj (by omega), fAddEA_far _ (by decide) (by decide) c]; exact m4
      · rw [zs_nq (by decide), zs_nj (by omega), zs_nj (by omega), zs_nj (by omega), zs_nj (by omega)]
        exact k4 j (by omega)
      · rw [zs_nq hb, zs_nq ha, zs_nq ha, zs_nq ha, zs_nq ha]
        exact k5 a ha hb
      · rw [zs_nj hj, zs_nq (by decide), zs_nq (by decide), zs_nq (by decide), zs_nq (by decide)]
        exact k6 j hj
/-- the entries of all vans but one, in class and reference -/
theorem zClrB {C X : zm_I} {v : Int32} {W Pn E : Nat} (hE : E ≤ 24) (hn : zEn 27 W Pn E C) (h0 : X 87 18 = nI 0) (hx : ∀ e, e < E → X 99 (4 * e) = C 28 e ∧ X 99 (4 * e + 1) = C 29 e ∧ X 99 (4 * e + 2) = C 30 e ∧ X 99 (4 * e + 3) = C 31 e) :
    ∀ i, i ≤ E → ∃ K, K ≤ i ∧ fTakeLB C v i 76 8 = nI K ∧ zit (rClrS v) X i 87 18 = nI K ∧ (∀ e, e < K → zit (rClrS v) X i 99 (4 * e) = fTakeLB C v i 77 e ∧ zit (rClrS v) X i 99 (4 * e + 1) = fTakeLB C v i 78 e ∧ zit (rClrS v) X i 99 (4 * e + 2) = fTakeLB C v i 79 e ∧ zit (rClrS v) X i 99 (4 * e + 3) = fTakeLB C v i 80 e) ∧ (∀ j, 4 * i ≤ j → zit (rClrS v) X i 99 j = X 99 j) ∧ (∀ a, a ≠ 99 → a ≠ 87 → zit (rClrS v) X i a = X a) ∧ ∀ j, j ≠ 18 → zit (rClrS v) X i 87 j = X 87 j
  | 0, _ => ⟨0, Nat.le_refl _, by show fTake0B C 76 8 = _; unfold fTake0B; rw [zm_une (by decide), zs_eq], h0, fun e he => absurd he (Nat.not_lt_zero _), fun _ _ => rfl, fun _ _ _ => rfl, fun _ _ => rfl⟩
  | i + 1, hi => by
    obtain ⟨K, hK, k1, k2, k3, k4, k5, k6⟩ := zClrB hE hn h0 hx i (by omega) (v := v)
    obtain ⟨_, _, _, hf⟩ := fTakeLB_inv C v i (by omega)
    obtain ⟨⟨x1, x2⟩, ⟨y1, y2⟩, _, _⟩ := hn i (by omega)
    obtain ⟨e1, e2, e3, e4⟩ := hx i (by omega)
    have f28 : fTakeLB C v i 28 i = C 28 i := hf 28 i (Nat.le_refl _) (by decide) (by decide)
    have f29 : fTakeLB C v i 29 i = C 29 i := hf 29 i (Nat.le_refl _) (by decide) (by decide)
    have f30 : fTakeLB C v i 30 i = C 30 i := hf 30 i (Nat.le_refl _) (by decide) (by decide)
    have f31 : fTakeLB C v i 31 i = C 31 i := hf 31 i (Nat.le_refl _) (by decide) (by decide)
    have g1 := k4 (4 * i) (Nat.le_refl _)
    have g2 := k4 (4 * i + 1) (by omega)
    have g3 := k4 (4 * i + 2) (by omega)
    have g4 := k4 (4 * i + 3) (by omega)
    rw [e1] at g1
    rw [e2] at g2
    rw [e3] at g3
    rw [e4] at g4
    show ∃ K, K ≤ i + 1 ∧ fTakeSB C v (fTakeLB C v i) i 76 8 = nI K ∧ rClrS v (zit (rClrS v) X i) i 87 18 = nI K ∧ (∀ e, e < K → rClrS v (zit (rClrS v) X i) i 99 (4 * e) = fTakeSB C v (fTakeLB C v i) i 77 e ∧ rClrS v (zit (rClrS v) X i) i 99 (4 * e + 1) = fTakeSB C v (fTakeLB C v i) i 78 e ∧ rClrS v (zit (rClrS v) X i) i 99 (4 * e + 2) = fTakeSB C v (fTakeLB C v i) i 79 e ∧ rClrS v (zit (rClrS v) X i) i 99 (4 * e + 3) = fTakeSB C v (fTakeLB C v i) i 80 e) ∧ (∀ j, 4 * (i + 1) ≤ j → rClrS v (zit (rClrS v) X i) i 99 j = X 99 j) ∧ (∀ a, a ≠ 99 → a ≠ 87 → rClrS v (zit (rClrS v) X i) i a = X a) ∧ ∀ j, j ≠ 18 → rClrS v (zit (rClrS v) X i) i 87 j = X 87 j
    generalize zit (rClrS v) X i = Y at k2 k3 k4 k5 k6 g1 g2 g3 g4 ⊢
    generalize fTakeLB C v i = D at k1 k3 f28 f29 f30 f31 ⊢
    clear hf
    unfold fTakeSB rClrS
    rw [g2, f29]
    by_cases h : C 29 i = v
    · rw [if_pos h, if_pos h]
      exact ⟨K, by omega, k1, k2, k3, fun j hj => k4 j (by omega), k5, k6⟩
    · rw [if_neg h, if_neg h, k1, k2, zi_nI (by omega), f28, f30, f31, g1, g3, g4]
      have x1' : nI (zi (C 28 i)) = C 28 i := x1.symm
      have y1' : nI (zi (C 29 i)) = C 29 i := y1.symm
      unfold rSets
      refine ⟨K + 1, by omega, fAddEB_8 _ _ _ _ _ _, zs_eq _ _ _ _, fun e he => ?_, fun j hj => ?_, fun a ha hb => ?_, fun j hj => ?_⟩
      · by_cases c : e = K
        · subst c
          unfold fAddEB
          refine ⟨?_, ?_, ?_, ?_⟩ <;> simp [zs_at, x1', y1']
        · obtain ⟨m1, m2, m3, m4⟩ := k3 e (by omega)
          refine ⟨?_, ?_, ?_, ?_⟩
          · rw [zs_nq (by decide), zs_nj (by omega), zs_nj (by omega), zs_nj (by omega), zs_nj (by omega), fAddEB_far _ (by decide) (by decide) c]; exact m1
          · rw [zs_nq (by decide), zs_nj (by omega), zs_nj (by omega), zs_nj (by omega), zs_nj (by omega), fAddEB_far _ (by decide) (by decide) c]; exact m2
          · rw [zs_nq (by decide), zs_nj (by omega), zs_nj (by omega), zs_nj (by omega), zs_nj (by omega), fAddEB_far _ (by decide) (by decide) c]; exact m3
          · rw [zs_nq (by decide), zs_nj (by omega), zs_nj (by omega), zs_nj (by omega), zs_nj (by omega), fAddEB_far _ (by decide) (by decide) c]; exact m4
      · rw [zs_nq (by decide), zs_nj (by omega), zs_nj (by omega), zs_nj (by omega), zs_nj (by omega)]
        exact k4 j (by omega)
      · rw [zs_nq hb, zs_nq ha, zs_nq ha, zs_nq ha, zs_nq ha]
        exact k5 a ha hb
      · rw [zs_nj hj, zs_nq (by decide), zs_nq (by decide), zs_nq (by decide), zs_nq (by decide)]
        exact k6 j hj
/-- a number's digits, the first night's the highest -/
def zDg (C n num k : Nat) : Nat := num % C ^ (n - k) / C ^ (n - k - 1)
theorem zDg_eq {C n num k : Nat} (h : k < n) : zDg C n num k = num / C ^ (n - k - 1) % C := by
  unfold zDg
  have e : C ^ (n - k) = C ^ (n - k - 1) * C := by
    rw [← Nat.pow_succ]
    congr 1
    omega
  rw [e, Nat.mod_mul_right_div_self]
def zDv (P d : Nat) : Int32 := if d = 0 then -1 else nI (4 * ((d - 1) / P) + (d - 1) % P)
theorem fChoL_dg {C P n num : Nat} : ∀ (m : Nat) (M : zm_I), m ≤ n → ∀ j, j < m → M 85 j = -1 → (fChoL C P m (M, num / C ^ (n - m))).1 85 j = zDv P (zDg C n num j)
  | 0, _, _, j, hj, _ => absurd hj (Nat.not_lt_zero _)
  | m + 1, M, hm, j, hj, h1 => by
    show (fChoL C P m (fChoS C P (M, num / C ^ (n - (m + 1))) m)).1 85 j = _
    have e2 : num / C ^ (n - (m + 1)) / C = num / C ^ (n - m) := by
      rw [Nat.div_div_eq_div_mul, ← Nat.pow_succ]
      congr 2
      omega
    have ed : num / C ^ (n - (m + 1)) % C = zDg C n num m := by
      rw [zDg_eq (by omega)]
      congr 2
    unfold fChoS
    dsimp only
    rw [e2, ed]
    by_cases c : j = m
    · subst c
      have hk : ∀ (m : Nat) (p : zm_I × Nat), m ≤ j → (fChoL C P m p).1 85 j = p.1 85 j := by
        intro m
        induction m with
        | zero => intro p _; rfl
        | succ m ih =>
          intro p hm
          show (fChoL C P m (fChoS C P p m)).1 85 j = _
          rw [ih _ (by omega)]
          unfold fChoS
          dsimp only
          split
          · rfl
          · exact zs_nj (by omega)
      rw [hk j _ (Nat.le_refl _)]
      unfold zDv
      split
      · exact h1
      · show zs M 85 j _ 85 j = _
        exact zs_eq _ _ _ _
    · refine fChoL_dg m _ (by omega) j (by omega) ?_
      split
      · exact h1
      · rw [zs_nj c]; exact h1
theorem fChoL_hi {C P : Nat} {j : Nat} : ∀ (m : Nat) (p : zm_I × Nat), m ≤ j → (fChoL C P m p).1 85 j = p.1 85 j
  | 0, _, _ => rfl
  | m + 1, p, hm => by
    show (fChoL C P m (fChoS C P p m)).1 85 j = _
    rw [fChoL_hi m _ (by omega)]
    unfold fChoS
    dsimp only
    split
    · rfl
    · exact zs_nj (by omega)
/-- what the class chooses -/
theorem fCho_dg {gi : zm_I} {C P n num j : Nat} (hn : n ≤ 3) (hj : j < 3) : fCho gi C P n num 85 j = if j < n then zDv P (zDg C n num j) else -1 := by
  unfold fCho
  have h0 : va_up gi 85 (zfill (gi 85) 3 (-1)) 85 j = -1 := by
    rw [va_up_self]
    show (if j < 3 then (-1 : Int32) else _) = -1
    rw [if_pos hj]
  by_cases c : j < n
  · rw [if_pos c]
    have e := fChoL_dg (C := C) (P := P) (num := num) n (va_up gi 85 (zfill (gi 85) 3 (-1))) (Nat.le_refl _) j c h0
    rw [Nat.sub_self, Nat.pow_zero, Nat.div_one] at e
    exact e
  · rw [if_neg c, fChoL_hi n _ (by omega)]
    exact h0
theorem zDg_step {C n num k : Nat} (hC : 0 < C) (hk : k < n) : C ^ (n - k) / C = C ^ (n - (k + 1)) ∧ num % C ^ (n - k) / C ^ (n - (k + 1)) = zDg C n num k ∧ num % C ^ (n - k) % C ^ (n - (k + 1)) = num % C ^ (n - (k + 1)) := by
  have e : C ^ (n - k) = C ^ (n - (k + 1)) * C := by
    rw [← Nat.pow_succ]
    congr 1
    omega
  refine ⟨by rw [e]; exact Nat.mul_div_cancel _ hC, ?_, by rw [e]; exact Nat.mod_mul_right_mod _ _ _⟩
  unfold zDg
  rw [show n - k - 1 = n - (k + 1) by omega]
theorem zDg_lt {C n num k : Nat} (hC : 0 < C) (hk : k < n) : zDg C n num k < C := by
  rw [zDg_eq hk]
  exact Nat.mod_lt _ hC
/-- a choice, read again -/
theorem zDv_rd {V Pn d : Nat} (hV : V ≤ 8) (hP : Pn ≤ 4) (hd : d < V * Pn + 1) (h0 : d ≠ 0) : (d - 1) / Pn < V ∧ (d - 1) % Pn < Pn ∧ 0 < Pn ∧ nI (4 * ((d - 1) / Pn) + (d - 1) % Pn) / nI 4 = nI ((d - 1) / Pn) ∧ nI (4 * ((d - 1) / Pn) + (d - 1) % Pn) - nI (4 * ((d - 1) / Pn) + (d - 1) % Pn) / nI 4 * nI 4 = nI ((d - 1) % Pn) := by
  have hPp : 0 < Pn := by
    rcases Nat.eq_zero_or_pos Pn with h | h
    · subst h; rw [Nat.mul_zero] at hd; omega
    · exact h
  have h1 : (d - 1) / Pn < V := by
    rw [Nat.div_lt_iff_lt_mul hPp]
    omega
  have h2 := Nat.mod_lt (d - 1) hPp
  generalize (d - 1) / Pn = a at *
  generalize (d - 1) % Pn = b at *
  have e1 : nI (4 * a + b) / nI 4 = nI a := by
    have := pk_div (a := 4 * a + b) (d := 4) (by omega) (by omega) (by omega)
    rw [this, show (4 * a + b) / 4 = a by omega]
  refine ⟨h1, h2, hPp, e1, ?_⟩
  rw [e1, pk_mul, pk_sub (by omega), show 4 * a + b - a * 4 = b by omega]
