/-! ===== the readers: a text ===== -/
theorem zTl_0 {kd wh kc vc : Int32} (h : zTl kd wh kc vc) : kc = nI 0 ↔ kd = nI 0 := by
  rcases h with ⟨h1, h2⟩ | ⟨h1, h2⟩ | ⟨h1, h2, h3⟩ | ⟨h1, h2, h3⟩ | ⟨h1, h2⟩
  · rw [h1, h2]
  · rw [h1, h2]; decide
  · rw [h1, h2]; decide
  · rw [h1]
    refine ⟨fun q => ?_, fun q => absurd q (by decide)⟩
    rcases h3 with ⟨w, w1, w2, w3, e⟩ | ⟨w3, e⟩ | ⟨w3, e⟩ | ⟨w3, e⟩ | ⟨w3, e⟩
    · rw [e] at q; exact absurd q (nI_q (by omega) (by omega) (by omega))
    · rw [e] at q; exact absurd q (by decide)
    · rw [e] at q; exact absurd q (by decide)
    · rw [e] at q; exact absurd q (by decide)
    · exact absurd w3 h2
  · rw [h2]
    refine ⟨fun q => absurd q (by decide), fun q => ?_⟩
    rcases h1 with h1 | h1 <;> rw [h1] at q <;> exact absurd q (by decide)
theorem zKpA (Y : zm_I) : ∀ k, k ≤ 64 → ∀ a j, zit rKpS Y k a j = if 110 ≤ a ∧ a ≤ 114 ∧ j < k then (if a = 110 ∨ a = 113 then Y a (64 + j) else Y a (64 + j) - nI 64) else Y a j
  | 0, _, a, j => by rw [if_neg (by omega)]; rfl
  | k + 1, hk, a, j => by
    have ih := zKpA Y k (by omega)
    show rKpS (zit rKpS Y k) k a j = _
    generalize zit rKpS Y k = Z at ih ⊢
    have up : ∀ a, Z a (64 + k) = Y a (64 + k) := fun a => by rw [ih, if_neg (by omega)]
    unfold rKpS
    rw [up, up, up, up, up]
    by_cases hj : j = k
    · subst hj
      by_cases h0 : a = 110
      · subst h0
        rw [zs_nq (by decide), zs_nq (by decide), zs_nq (by decide), zs_nq (by decide), zs_eq, if_pos (by omega), if_pos (by omega)]
      by_cases h1 : a = 111
      · subst h1
        rw [zs_nq (by decide), zs_nq (by decide), zs_nq (by decide), zs_eq, if_pos (by omega), if_neg (by omega)]
      by_cases h2 : a = 112
      · subst h2
        rw [zs_nq (by decide), zs_nq (by decide), zs_eq, if_pos (by omega), if_neg (by omega)]
      by_cases h3 : a = 113
      · subst h3
        rw [zs_nq (by decide), zs_eq, if_pos (by omega), if_pos (by omega)]
      by_cases h4 : a = 114
      · subst h4
        rw [zs_eq, if_pos (by omega), if_neg (by omega)]
      rw [zs_nq h4, zs_nq h3, zs_nq h2, zs_nq h1, zs_nq h0, if_neg (by omega), ih, if_neg (by omega)]
    · rw [zs_no (Or.inr hj), zs_no (Or.inr hj), zs_no (Or.inr hj), zs_no (Or.inr hj), zs_no (Or.inr hj), ih]
      by_cases c : 110 ≤ a ∧ a ≤ 114 ∧ j < k
      · rw [if_pos c]; exact (if_pos (by omega)).symm
      · rw [if_neg c, if_neg (by omega)]
/-- a line read becomes a line in force -/
theorem zLn_keep {M X C Y : zm_I} {s l : Nat} {dn : Nat → Nat} {t : Bool} (hs : s ≤ 64) (h114 : ∀ j, j < s → X 114 (64 + j) = nI (64 + dn j) ∧ dn j < s) (h : zLD M X dn s l t)
    (hC : ∀ c, c < 64 → C 37 c = M 44 c ∧ C 38 c = M 45 c) (h39 : C 39 l = M 46 l) (h40 : C 40 l = M 47 l) (hY : ∀ a j, 110 ≤ a → a ≤ 114 → j < s → Y a j = if a = 110 ∨ a = 113 then X a (64 + j) else X a (64 + j) - nI 64)
    (y9 : Y 109 (2 + l) = zb (t = true)) (y5 : Y 115 l = X 115 (5 + l)) (y6 : Y 116 l = X 116 (5 + l)) : zLn C Y l := by
  rcases h with ⟨ht, h1⟩ | ⟨ht, s0, m, rt, h1, h2, h3, h4, h5, st, e1, e2, e3⟩
  · refine Or.inl ⟨by rw [h39, h40, h1.1, h1.2], ?_⟩
    rw [y9, ht]
    rfl
  · have hm : 0 < m := by
      rcases Nat.eq_zero_or_pos m with q | q
      · rw [q, e1] at e2
        exact absurd e2 (by simp)
      · exact q
    refine Or.inr ⟨s0, m, s0, hm, by omega, by omega, h39.trans h2, h40.trans h3, by rw [y9, ht]; rfl, y5.trans h4, y6.trans h5, st, e1, by rw [e2]; rfl, fun i hi => ?_⟩
    obtain ⟨f1, f2⟩ := h114 (s0 + i) (by omega)
    have g4 : Y 114 (s0 + i) = nI (dn (s0 + i)) := by
      rw [hY 114 _ (by decide) (by decide) (by omega), if_neg (by decide), f1, pk_sub (by omega), show 64 + dn (s0 + i) - 64 = dn (s0 + i) by omega]
    rw [g4, zi_nI (by omega)]
    refine ⟨rfl, ?_⟩
    have y0 := hY 110 (dn (s0 + i)) (by decide) (by decide) f2
    have y1 := hY 111 (dn (s0 + i)) (by decide) (by decide) f2
    have y2 := hY 112 (dn (s0 + i)) (by decide) (by decide) f2
    have y3 := hY 113 (dn (s0 + i)) (by decide) (by decide) f2
    rw [if_pos (by decide)] at y0 y3
    rw [if_neg (by decide)] at y1 y2
    obtain ⟨k1, k2⟩ := hC (s0 + i) (by omega)
    have hn := e3 i hi
    unfold zND at hn
    unfold zNd
    rw [k1, k2, y0, y3]
    obtain ⟨n1, n2, n3, n4⟩ := hn
    refine ⟨n1, n2, n3, ?_⟩
    rcases n4 with q | q | ⟨q, b, R, q1, q2, q3, q4⟩ | ⟨k, q, q0, b, d, R, q1, q2, q3, q4, q5, q6⟩
    · exact Or.inl q
    · exact Or.inr (Or.inl q)
    · refine Or.inr (Or.inr (Or.inl ⟨q, b, R, q1, q2, ?_, q4⟩))
      rw [y1, q3, pk_sub (by omega), show 64 + b - 64 = b by omega]
    · refine Or.inr (Or.inr (Or.inr ⟨k, q, q0, b, d, R, q1, q2, q3, ?_, ?_, q6⟩))
      · rw [y1, q4, pk_sub (by omega), show 64 + b - 64 = b by omega]
      · rw [y2, q5, pk_sub (by omega), show 64 + d - 64 = d by omega]
theorem zTwo_r {k : Nat} (h : zTwo k) : 8 ≤ k ∧ k < 23 := by
  rcases h with rfl | rfl | rfl | rfl | rfl | rfl | rfl | rfl | rfl | rfl | rfl | rfl | rfl <;> decide
theorem zLaw_keep {M X C : zm_I} {s l : Nat} {dn : Nat → Nat} {t : Bool} (hs : s ≤ 64) (h : zLD M X dn s l t) (hC : ∀ c, c < 64 → C 37 c = M 44 c ∧ C 38 c = M 45 c) (h39 : C 39 l = M 46 l) (h40 : C 40 l = M 47 l) :
    ∃ s0 s1, C 39 l = nI s0 ∧ C 40 l = nI s1 ∧ s0 ≤ s1 ∧ s1 ≤ 64 ∧ ∀ k, s0 ≤ k → k < s1 → zx (C 37 k) 23 ∧ (zi (C 37 k) = 3 ∨ zi (C 37 k) = 4 ∨ 8 ≤ zi (C 37 k)) ∧ (zi (C 37 k) = 4 → zx (C 38 k) 11) := by
  rcases h with ⟨ht, h1, h2⟩ | ⟨ht, s0, m, rt, h1, h2, h3, h4, h5, st, e1, e2, e3⟩
  · exact ⟨0, 0, h39.trans h1, h40.trans h2, Nat.le_refl _, by decide, fun k a b => absurd b (by omega)⟩
  · refine ⟨s0, s0 + m, h39.trans h2, h40.trans h3, by omega, by omega, fun k a b => ?_⟩
    obtain ⟨n1, n2, n3, n4⟩ := e3 (k - s0) (by omega)
    rw [show s0 + (k - s0) = k by omega] at n4
    obtain ⟨k1, k2⟩ := hC k (by omega)
    have fin : ∀ q, q < 23 → (q = 3 ∨ q = 4 ∨ 8 ≤ q) → M 44 k = nI q → (q = 4 → zx (C 38 k) 11) → zx (C 37 k) 23 ∧ (zi (C 37 k) = 3 ∨ zi (C 37 k) = 4 ∨ 8 ≤ zi (C 37 k)) ∧ (zi (C 37 k) = 4 → zx (C 38 k) 11) := fun q q1 q2 q3 q4 => by
      rw [k1, q3]
      refine ⟨zx_of q1 (by decide), ?_, ?_⟩
      · rw [zi_nI (by omega)]; exact q2
      · rw [zi_nI (by omega)]; exact q4
    rcases n4 with ⟨q, _⟩ | ⟨q, _, q2, _⟩ | ⟨q, _⟩ | ⟨j, q, q0, _⟩
    · exact fin 3 (by decide) (by decide) q (fun z => absurd z (by decide))
    · exact fin 4 (by decide) (by decide) q (fun _ => by rw [k2]; exact q2)
    · rcases q with q | q
      · exact fin 10 (by decide) (by decide) q (fun z => absurd z (by decide))
      · exact fin 22 (by decide) (by decide) q (fun z => absurd z (by decide))
    · have := zTwo_r q0
      exact fin j this.2 (by omega) q (fun z => absurd z (by omega))
/-- what a text leaves alone -/
def zFrQ (X X' : zm_I) : Prop := (∀ a, a ≠ 87 → (a < 107 ∨ 120 < a) → X' a = X a) ∧ (∀ j, j ≠ 1 → j ≠ 2 → (j < 29 ∨ (35 < j ∧ j < 46) ∨ 58 < j) → X' 87 j = X 87 j) ∧ X' 87 1 = nI 0 ∧ ∀ j, X' 108 j = 0 ∨ X' 108 j = 1
/-- how a text ends -/
def zTmE (X : zm_I) (R : Bool × zm_I) (z : Int32) (X' : zm_I) : Prop :=
  zFrQ X X' ∧ (X' 87 29 = R.2 42 7 ∧ X' 87 30 = R.2 42 8) ∧
  ((R.1 = false ∧ z = -1 ∧ X' 87 46 = X 87 46 ∧ X' 109 = X 109 ∧ (∀ a j, 110 ≤ a → a ≤ 114 → j < 64 → X' a j = X a j) ∧ (∀ j, j < 5 → X' 115 j = X 115 j ∧ X' 116 j = X 116 j) ∧ ∀ j, j < 2 → X' 107 j = X 107 j) ∨
   (R.1 = true ∧ z = R.2 43 7 ∧ X' 87 46 = R.2 43 8 ∧ (∃ s, s ≤ 64 ∧ R.2 43 8 = nI s) ∧ X' 107 0 = R.2 43 5 ∧ X' 107 1 = R.2 43 6 ∧ ∀ C, (∀ c, c < 64 → C 37 c = R.2 44 c ∧ C 38 c = R.2 45 c) → (∀ l, l < 5 → C 39 l = R.2 46 l ∧ C 40 l = R.2 47 l) → (∀ l, l < 5 → zLn C X' l) ∧ zLaw C))
theorem rKp0_q (X : zm_I) (q : Nat) {a : Nat} (h7 : a ≠ 107) (h9 : a ≠ 109) (h5 : a ≠ 115) (h6 : a ≠ 116) (h87 : a ≠ 87) : rKp0 X q a = X a := by
  unfold rKp0
  rw [zs_nq h87, zs_nq h6, zs_nq h5, zs_nq h6, zs_nq h5, zs_nq h6, zs_nq h5, zs_nq h6, zs_nq h5, zs_nq h6, zs_nq h5, zs_nq h9, zs_nq h9, zs_nq h9, zs_nq h9, zs_nq h9, zs_nq h9, zs_nq h9, zs_nq h7, zs_nq h7]
theorem rKp0_9 (X : zm_I) (q w : Nat) (hw : w < 7) : rKp0 X q 109 w = X 108 w := by
  rcases (show w = 0 ∨ w = 1 ∨ w = 2 ∨ w = 3 ∨ w = 4 ∨ w = 5 ∨ w = 6 by omega) with h | h | h | h | h | h | h <;> subst h <;> rfl
theorem rKp0_5 (X : zm_I) (q l : Nat) (hl : l < 5) : rKp0 X q 115 l = X 115 (5 + l) ∧ rKp0 X q 116 l = X 116 (5 + l) := by
  rcases (show l = 0 ∨ l = 1 ∨ l = 2 ∨ l = 3 ∨ l = 4 by omega) with h | h | h | h | h <;> subst h <;> exact ⟨rfl, rfl⟩
theorem rKp0_7 (X : zm_I) (q : Nat) : rKp0 X q 107 0 = X 107 2 ∧ rKp0 X q 107 1 = X 107 3 ∧ rKp0 X q 87 46 = nI q := ⟨rfl, rfl, rfl⟩
theorem rKp0_87 (X : zm_I) (q : Nat) {j : Nat} (h : j ≠ 46) : rKp0 X q 87 j = X 87 j := by
  unfold rKp0
  rw [zs_nj h, zs_nq (by decide), zs_nq (by decide), zs_nq (by decide), zs_nq (by decide), zs_nq (by decide), zs_nq (by decide), zs_nq (by decide), zs_nq (by decide), zs_nq (by decide), zs_nq (by decide), zs_nq (by decide), zs_nq (by decide), zs_nq (by decide), zs_nq (by decide), zs_nq (by decide), zs_nq (by decide), zs_nq (by decide), zs_nq (by decide), zs_nq (by decide)]
/-- the text is read through: what is kept -/
theorem zTmK {M X gi X0 : zm_I} {n i s b k : Nat} {dn : Nat → Nat} (hS : zLS s b k dn M X) (hD : ∀ l, l < 5 → zLD M X dn s l (b.testBit (2 + l))) (h0 : zFrQ gi X0) (hF : zFrT X0 X) {R : Bool × zm_I} (hR : R = (true, fAv M)) :
    zTmE gi R (nI k) (zit rKpS (rKp0 X s) s) := by
  obtain ⟨⟨s1, s2, s3, s4, s5⟩, s6, ⟨s7, s8, s9, s10⟩, ⟨s11, s12, s13⟩, s14⟩ := hS
  have hZ := zKpA (rKp0 X s) s s5
  have zq : ∀ a, (a < 110 ∨ 114 < a) → zit rKpS (rKp0 X s) s a = rKp0 X s a := fun a h => funext fun j => by rw [hZ, if_neg (by omega)]
  have zl : ∀ a j, 110 ≤ a → a ≤ 114 → j < s → zit rKpS (rKp0 X s) s a j = if a = 110 ∨ a = 113 then X a (64 + j) else X a (64 + j) - nI 64 := fun a j h1 h2 h3 => by rw [hZ, if_pos ⟨h1, h2, h3⟩, rKp0_q X s (by omega) (by omega) (by omega) (by omega) (by omega)]
  generalize zit rKpS (rKp0 X s) s = Y at zq zl ⊢
  clear hZ
  have mq : ∀ a, a ≠ 50 → fAv M a = M a := fun a h => fAv_q M h
  subst hR
  generalize fAv M = M2 at mq ⊢
  have y87 : ∀ j, j ≠ 46 → Y 87 j = X 87 j := fun j h => by rw [zq 87 (by omega), rKp0_87 X s h]
  refine ⟨⟨fun a h1 h2 => ?_, fun j h1 h2 h3 => ?_, ?_, fun j => ?_⟩, ⟨?_, ?_⟩, Or.inr ⟨rfl, ?_, ?_, ⟨s, s5, ?_⟩, ?_, ?_, fun C hC hC2 => ⟨fun l hl => ?_, fun l hl => ?_⟩⟩⟩
  · rw [zq a (by omega), rKp0_q X s (by omega) (by omega) (by omega) (by omega) h1, hF.1 a h1 (by omega)]
    exact h0.1 a h1 h2
  · rw [y87 j (by omega), hF.2.2.2.2.1 j (by omega)]
    exact h0.2.1 j h1 h2 h3
  · rw [y87 1 (by decide), hF.2.2.2.2.1 1 (by omega)]
    exact h0.2.2.1
  · rw [zq 108 (by omega), rKp0_q X s (by decide) (by decide) (by decide) (by decide) (by decide)]
    exact s10 j
  · show Y 87 29 = M2 42 7
    rw [y87 29 (by decide), mq 42 (by decide), s14.1, s14.2.2.1]
  · show Y 87 30 = M2 42 8
    rw [y87 30 (by decide), mq 42 (by decide), s14.2.1, s14.2.2.2]
  · show nI k = M2 43 7
    rw [mq 43 (by decide), s13]
  · show Y 87 46 = M2 43 8
    rw [zq 87 (by omega), (rKp0_7 X s).2.2, mq 43 (by decide), s3]
  · show M2 43 8 = nI s
    rw [mq 43 (by decide), s3]
  · show Y 107 0 = M2 43 5
    rw [zq 107 (by omega), (rKp0_7 X s).1, mq 43 (by decide), s11]
  · show Y 107 1 = M2 43 6
    rw [zq 107 (by omega), (rKp0_7 X s).2.1, mq 43 (by decide), s12]
  · refine zLn_keep (M := M) (X := X) s5 s6 (hD l hl) (fun c hc => ?_) ?_ ?_ zl ?_ ?_ ?_
    · have := hC c hc
      rw [show (true, M2).2 = M2 from rfl, mq 44 (by decide), mq 45 (by decide)] at this
      exact this
    · have := (hC2 l hl).1
      rw [show (true, M2).2 = M2 from rfl, mq 46 (by decide)] at this
      exact this
    · have := (hC2 l hl).2
      rw [show (true, M2).2 = M2 from rfl, mq 47 (by decide)] at this
      exact this
    · rw [zq 109 (by omega), rKp0_9 X s (2 + l) (by omega)]
      exact s9 (2 + l) (by omega)
    · rw [zq 115 (by omega)]; exact (rKp0_5 X s l hl).1
    · rw [zq 116 (by omega)]; exact (rKp0_5 X s l hl).2
  · refine zLaw_keep (M := M) (X := X) s5 (hD l hl) (fun c hc => ?_) ?_ ?_
    · have := hC c hc
      rw [show (true, M2).2 = M2 from rfl, mq 44 (by decide), mq 45 (by decide)] at this
      exact this
    · have := (hC2 l hl).1
      rw [show (true, M2).2 = M2 from rfl, mq 46 (by decide)] at this
      exact this
    · have := (hC2 l hl).2
      rw [show (true, M2).2 = M2 from rfl, mq 47 (by decide)] at this
      exact this
theorem fTx0_at {C : zm_I} {n : Nat} (hn : n ≤ 500) : fTx0 C n 50 1 = nI n ∧ fTx0 C n 50 3 = nI 0 ∧ fTx0 C n 1 = C 1 ∧ fTx0 C n 42 5 = nI 0 ∧ fTx0 C n 42 6 = nI 0 ∧ fTx0 C n 42 7 = nI 0 ∧ fTx0 C n 42 8 = -1 ∧ fTx0 C n 43 5 = nI 600 ∧ fTx0 C n 43 6 = nI 5 ∧ fTx0 C n 43 7 = nI 0 ∧ fTx0 C n 43 8 = nI 0 ∧ ∀ l, l < 5 → fTx0 C n 46 l = nI 0 ∧ fTx0 C n 47 l = nI 0 := by
  have hm : zmin (nI n) (nI 500) = nI n := by
    unfold zmin
    split
    · next h =>
      have h2 : (nI 500).toInt < (nI n).toInt := Int32.lt_iff_toInt_lt.mp h
      rw [nI_toInt (by omega), nI_toInt (by omega)] at h2
      omega
    · rfl
  unfold fTx0
  rw [hm]
  refine ⟨rfl, rfl, ?_, rfl, rfl, rfl, rfl, rfl, rfl, rfl, rfl, fun l hl => ⟨?_, ?_⟩⟩
  · rw [zs_nq (by decide), zs_nq (by decide), zs_nq (by decide), zs_nq (by decide), fRst_q _ (by decide) (by decide) (by decide), zs_nq (by decide), zs_nq (by decide)]
  · rw [zs_nq (by decide), zs_nq (by decide), zs_nq (by decide), zs_nq (by decide)]
    unfold fRst
    rw [zs_nq (by decide), zs_nq (by decide), zs_nq (by decide), zs_nq (by decide), zm_une (by decide), va_up_self]
    exact if_pos hl
  · rw [zs_nq (by decide), zs_nq (by decide), zs_nq (by decide), zs_nq (by decide)]
    unfold fRst
    rw [zs_nq (by decide), zs_nq (by decide), zs_nq (by decide), zs_nq (by decide), va_up_self]
    exact if_pos hl
theorem rPl_q (X : zm_I) {a : Nat} (h7 : a ≠ 107) (h8 : a ≠ 108) (h6 : a ≠ 116) (h87 : a ≠ 87) : rPl X a = X a := by
  unfold rPl
  rw [zs_nq h87, zs_nq h87, zs_nq h7, zs_nq h7, zs_nq h6, zs_nq h6, zs_nq h6, zs_nq h6, zs_nq h6, zs_nq h8, zs_nq h8, zs_nq h8, zs_nq h8, zs_nq h8, zs_nq h8, zs_nq h8]
theorem rPl_87 (X : zm_I) {j : Nat} (h : j ≠ 47) (h2 : j ≠ 48) : rPl X 87 j = X 87 j := by
  unfold rPl
  rw [zs_nj h2, zs_nj h, zs_nq (by decide), zs_nq (by decide), zs_nq (by decide), zs_nq (by decide), zs_nq (by decide), zs_nq (by decide), zs_nq (by decide), zs_nq (by decide), zs_nq (by decide), zs_nq (by decide), zs_nq (by decide), zs_nq (by decide), zs_nq (by decide), zs_nq (by decide)]
theorem rPl_8 (X : zm_I) (w : Nat) (hw : w < 7) : rPl X 108 w = nI 0 := by
  rcases (show w = 0 ∨ w = 1 ∨ w = 2 ∨ w = 3 ∨ w = 4 ∨ w = 5 ∨ w = 6 by omega) with h | h | h | h | h | h | h <;> subst h <;> rfl
theorem rPl_8n (X : zm_I) (w : Nat) (hw : ¬ w < 7) : rPl X 108 w = X 108 w := by
  unfold rPl
  rw [zs_nq (by decide), zs_nq (by decide), zs_nq (by decide), zs_nq (by decide), zs_nq (by decide), zs_nq (by decide), zs_nq (by decide), zs_nq (by decide), zs_nq (by decide), zs_nj (by omega), zs_nj (by omega), zs_nj (by omega), zs_nj (by omega), zs_nj (by omega), zs_nj (by omega), zs_nj (by omega)]
theorem rPl_6 (X : zm_I) (j : Nat) (hj : j < 5) : rPl X 116 j = X 116 j := by
  unfold rPl
  rw [zs_nq (by decide), zs_nq (by decide), zs_nq (by decide), zs_nq (by decide), zs_nj (by omega), zs_nj (by omega), zs_nj (by omega), zs_nj (by omega), zs_nj (by omega), zs_nq (by decide), zs_nq (by decide), zs_nq (by decide), zs_nq (by decide), zs_nq (by decide), zs_nq (by decide), zs_nq (by decide)]
theorem rPl_7 (X : zm_I) : rPl X 107 2 = nI 600 ∧ rPl X 107 3 = nI 5 ∧ rPl X 107 0 = X 107 0 ∧ rPl X 107 1 = X 107 1 ∧ rPl X 87 47 = nI 0 ∧ rPl X 87 48 = nI 0 := ⟨rfl, rfl, rfl, rfl, rfl, rfl⟩
/-- a text begins -/
theorem zTm0 {C gi X0 : zm_I} {n : Nat} {pl nx : Nat} {w0 kd wh : Int32} (hn : n ≤ 500) (hT : zTp n (C 1) (gi 88)) (hW : zWs gi) (h108 : ∀ j, gi 108 j = 0 ∨ gi 108 j = 1) (hx : ∀ a, a ≠ 87 → X0 a = gi a) (hj : ∀ j, j ≠ 1 → j ≠ 2 → (j < 29 ∨ 35 < j) → X0 87 j = gi 87 j) (h1 : X0 87 1 = nI 0) (h31 : X0 87 31 = nI n) (h29 : X0 87 29 = nI 0) (h30 : X0 87 30 = -1) (ht : rTkP (rPl X0 88) n 0 w0 pl nx kd wh) :
    zLS 0 0 0 (fun j => j) (fTx0 C n) (rTk (rPl X0) (nI pl) (nI nx) kd wh) ∧ (∀ l, l < 5 → zLD (fTx0 C n) (rTk (rPl X0) (nI pl) (nI nx) kd wh) (fun j => j) 0 l (Nat.testBit 0 (2 + l))) ∧ zTS n 0 (fTx0 C n) (rTk (rPl X0) (nI pl) (nI nx) kd wh) pl nx kd wh ∧ zFrQ gi (rTk (rPl X0) (nI pl) (nI nx) kd wh) ∧ (rTk (rPl X0) (nI pl) (nI nx) kd wh 87 46 = gi 87 46 ∧ (∀ a, 109 ≤ a → a ≤ 115 → rTk (rPl X0) (nI pl) (nI nx) kd wh a = gi a) ∧ (∀ j, j < 5 → rTk (rPl X0) (nI pl) (nI nx) kd wh 116 j = gi 116 j) ∧ ∀ j, j < 2 → rTk (rPl X0) (nI pl) (nI nx) kd wh 107 j = gi 107 j) := by
  obtain ⟨b1, b2, b3, b4, b5, b6, b7, b8, b9, b10, b11, b12⟩ := fTx0_at (C := C) hn
  obtain ⟨p1, p2, p3, p4, p5, p6⟩ := rPl_7 X0
  have q87 : ∀ j, (j < 29 ∨ 35 < j) → j ≠ 47 → j ≠ 48 → rTk (rPl X0) (nI pl) (nI nx) kd wh 87 j = X0 87 j := fun j h2 h3 h4 => by rw [rTk_j _ _ _ _ _ (by omega) (by omega) (by omega) (by omega), rPl_87 X0 h3 h4]
  have qa : ∀ a, a ≠ 107 → a ≠ 108 → a ≠ 116 → a ≠ 87 → rTk (rPl X0) (nI pl) (nI nx) kd wh a = gi a := fun a c1 c2 c3 c4 => by rw [rTk_nq _ _ _ _ _ c4, rPl_q X0 c1 c2 c3 c4, hx a c4]
  have q8 : ∀ j, rTk (rPl X0) (nI pl) (nI nx) kd wh 108 j = 0 ∨ rTk (rPl X0) (nI pl) (nI nx) kd wh 108 j = 1 := fun j => by
    rw [rTk_nq _ _ _ _ _ (by decide)]
    by_cases c : j < 7
    · rw [rPl_8 X0 j c]; exact Or.inl rfl
    · rw [rPl_8n X0 j c, hx 108 (by decide)]; exact h108 j
  have r1 : ∀ j, rTk (rPl X0) (nI pl) (nI nx) kd wh 107 j = rPl X0 107 j := fun j => by rw [rTk_nq _ _ _ _ _ (by decide)]
  refine ⟨⟨⟨b4, ?_, b11, ?_, by decide⟩, fun j hj => absurd hj (Nat.not_lt_zero _), ⟨by decide, b5, fun w hw => ?_, q8⟩, ⟨by rw [r1, p1, b8], by rw [r1, p2, b9], b10⟩, ?_, ?_, b6, b7⟩, fun l hl => ?_, ?_, ⟨fun a c1 c2 => qa a (by omega) (by omega) (by omega) c1, fun j c1 c2 c3 => ?_, ?_, q8⟩, ?_, fun a c1 c2 => qa a (by omega) (by omega) (by omega) (by omega), fun j c1 => ?_, fun j c1 => ?_⟩
  · rw [rTk_j _ _ _ _ _ (by omega) (by omega) (by omega) (by omega)]; exact p6
  · rw [rTk_j _ _ _ _ _ (by omega) (by omega) (by omega) (by omega)]; exact p5
  · rw [rTk_nq _ _ _ _ _ (by decide), rPl_8 X0 w hw, Nat.zero_testBit]; rfl
  · rw [rTk_j _ _ _ _ _ (by omega) (by omega) (by omega) (by omega), rPl_87 X0 (by decide) (by decide)]; exact h29
  · rw [rTk_j _ _ _ _ _ (by omega) (by omega) (by omega) (by omega), rPl_87 X0 (by decide) (by decide)]; exact h30
  · exact Or.inl ⟨Nat.zero_testBit _, (b12 l hl).1, (b12 l hl).2⟩
  · exact zTS_tk hn (by rw [rPl_87 X0 (by decide) (by decide)]; exact h31) (by rw [b3, rPl_q X0 (by decide) (by decide) (by decide) (by decide), hx 88 (by decide)]; exact hT) (fun j hj => by rw [rPl_q X0 (by decide) (by decide) (by decide) (by decide), hx 106 (by decide)]; exact hW j hj) b1 b2 (Nat.zero_le _) ht
  · rw [q87 j (by omega) (by omega) (by omega)]; exact hj j c1 c2 (by omega)
  · rw [q87 1 (by decide) (by decide) (by decide)]; exact h1
  · rw [q87 46 (by decide) (by decide) (by decide)]; exact hj 46 (by decide) (by decide) (by decide)
  · rw [rTk_nq _ _ _ _ _ (by decide), rPl_6 X0 j c1, hx 116 (by decide)]
  · rw [r1]
    rcases (show j = 0 ∨ j = 1 by omega) with e | e <;> subst e
    · rw [p3, hx 107 (by decide)]
    · rw [p4, hx 107 (by decide)]
/-- a text is wrong: what stands -/
theorem zTmF {gi X1 X2 N : zm_I} (hQ : zFrQ gi X1) (hk : X1 87 46 = gi 87 46 ∧ (∀ a, 109 ≤ a → a ≤ 115 → X1 a = gi a) ∧ (∀ j, j < 5 → X1 116 j = gi 116 j) ∧ ∀ j, j < 2 → X1 107 j = gi 107 j) (hF : zFrT X1 X2) {R : Bool × zm_I} (hR : R = (false, N)) (b2 : X2 87 29 = N 42 7) (b3 : X2 87 30 = N 42 8) : zTmE gi R (-1) X2 := by
  subst hR
  obtain ⟨k1, k2, k3, k4⟩ := hk
  exact ⟨⟨fun a h1 h2 => (hF.1 a h1 (by omega)).trans (hQ.1 a h1 h2), fun j h1 h2 h3 => (hF.2.2.2.2.1 j (by omega)).trans (hQ.2.1 j h1 h2 h3), (hF.2.2.2.2.1 1 (by omega)).trans hQ.2.2.1, hF.2.2.2.2.2 hQ.2.2.2⟩, ⟨b2, b3⟩, Or.inl ⟨rfl, rfl, (hF.2.2.2.2.1 46 (by omega)).trans k1, (hF.1 109 (by decide) (by omega)).trans (k2 109 (by decide) (by decide)), fun a j h1 h2 h3 => (hF.2.1 a j h1 h2 h3).trans (congrFun (k2 a (by omega) (by omega)) j), fun j hj => ⟨(hF.2.2.1 j hj).1.trans (congrFun (k2 115 (by decide) (by decide)) j), (hF.2.2.1 j hj).2.trans (k3 j hj)⟩, fun j hj => (hF.2.2.2.1 j hj).trans (k4 j hj)⟩⟩
theorem ct_rTerms (g : zm_G) (gi : zm_I) (gl : zm_J) (r : Nat) (C : zm_I) {T : Nat} (v : Int32) (hT1 : gi 87 1 = nI T) (hT5 : T ≤ 500) (hTp : zTp T (C 1) (gi 88)) (hW : zWs gi) (h108 : ∀ j, gi 108 j = 0 ∨ gi 108 j = 1)  : zC_i g yX11_terms mX11_terms 7 [.ref 87, .int v] zSH gi gl (zRT r) (fun z gi' gl' gr' => (¬ (nI 0 ≤ v ∧ v ≤ nI T) ∧ z = -2 ∧ gi' = zs gi 87 2 (nI 0) ∧ gl' = gl ∧ gr' = zRT r) ∨ (∃ n, n ≤ T ∧ v = nI n ∧ zTmE gi (fTx C n) z gi' ∧ gl' = gl ∧ gr' = zRT r)) := by
  refine zC_i_of [some (.ref 87), some (.int v), none] (by decide) rfl rfl (Nat.le_of_ble_eq_true rfl) (fun x => ?_)
  refine zA_aload_0 dX11_terms_0 ?_
  refine zA_iconst (nI 0) dX11_terms_1 ic_0 ?_
  refine zS_putI sh_87 fX11_163 dX11_terms_2 rfl rfl ?_
  refine zA_iload_1 dX11_terms_5 ?_
  refine zA_if_lt 17 dX11_terms_6 (by decide) (fun h0 => ?_) (fun h0 => ?_)
  · refine zA_bipush (-2) dX11_terms_17 bc_m2 ?_
    exact zB_iret rfl dX11_terms_19 (Or.inl ⟨fun q => absurd h0 (Int32.not_lt.mpr q.1), rfl, rfl, rfl, rfl⟩)
  · refine zA_iload_1 dX11_terms_9 ?_
    refine zA_aload_0 dX11_terms_10 ?_
    refine zA_getI (v := (nI T)) sh_87 fX11_166 dX11_terms_11 rfl hT1 ?_
    refine zA_icmp_le 20 dX11_terms_14 (by decide) (fun h1 => ?_) (fun h1 => ?_)
    · obtain ⟨n, hn, rfl⟩ := zwi_nat (n := v) (V := T) ⟨Int32.not_lt.mp h0, h1⟩ (by omega)
      refine zA_aload_0 dX11_terms_20 ?_
      refine zA_iload_1 dX11_terms_21 ?_
      refine zS_putI sh_87 fX11_221 dX11_terms_22 rfl rfl ?_
      refine zA_aload_0 dX11_terms_25 ?_
      refine zA_iconst (nI 0) dX11_terms_26 ic_0 ?_
      refine zS_putI sh_87 fX11_166 dX11_terms_27 rfl rfl ?_
      refine zA_aload_0 dX11_terms_30 ?_
      refine zA_iconst (nI 0) dX11_terms_31 ic_0 ?_
      refine zS_putI sh_87 fX11_215 dX11_terms_32 rfl rfl ?_
      refine zA_aload_0 dX11_terms_35 ?_
      refine zA_iconst (-1) dX11_terms_36 ic_m1 ?_
      refine zS_putI sh_87 fX11_68 dX11_terms_37 rfl rfl ?_
      refine zA_aload_0 dX11_terms_40 ?_
      refine zA_iconst (nI 0) dX11_terms_41 ic_0 ?_
      refine zS_putI sh_87 fX11_224 dX11_terms_42 rfl rfl ?_
      refine zA_aload_0 dX11_terms_45 ?_
      refine zA_cVv (ct_rPlain g ((zs (zs (zs (zs (zs (zs gi 87 2 ((nI 0))) 87 31 ((nI n))) 87 1 ((nI 0))) 87 29 ((nI 0))) 87 30 (((-1)))) 87 32 ((nI 0)))) gl r) calX11_plain stX11_plain lX11_157 dX11_terms_46 (by decide) (by simp [Value.category]) rfl (Nat.le_refl _) (Nat.le_refl _) sh_87 rfl (fun gi' gl' gr' ⟨e1, e2, e3⟩ => ?_)
      rw [e1, e2, e3]
      clear e1 e2 e3
      refine zA_iconst (nI 0) dX11_terms_49 ic_0 ?_
      refine zA_istore_2 dX11_terms_50 rfl ?_
      refine zA_aload_0 dX11_terms_51 ?_
      refine zA_cVv (ct_rTake g (rPl ((zs (zs (zs (zs (zs (zs gi 87 2 ((nI 0))) 87 31 ((nI n))) 87 1 ((nI 0))) 87 29 ((nI 0))) 87 30 (((-1)))) 87 32 ((nI 0))))) gl r (fun j hj => by rw [rPl_q _ (by decide) (by decide) (by decide) (by decide)]; exact hW j hj) (n := n) (i := 0) (by rw [rPl_87 _ (by decide) (by decide)]; rfl) (by omega) (by rw [rPl_87 _ (by decide) (by decide)]; rfl) (Nat.zero_le _)) calX11_take stX11_take lX11_289 dX11_terms_52 (by decide) (by simp [Value.category]) rfl (Nat.le_refl _) (Nat.le_refl _) sh_87 rfl (fun gi' gl' gr' ⟨pl, nx, kd, wh, ht, e1, e2, e3⟩ => ?_)
      rw [e1, e2, e3]
      clear e1 e2 e3
      obtain ⟨hS, hD, hT, hFq, hkp⟩ := zTm0 (C := C) (gi := gi) (X0 := ((zs (zs (zs (zs (zs (zs gi 87 2 ((nI 0))) 87 31 ((nI n))) 87 1 ((nI 0))) 87 29 ((nI 0))) 87 30 (((-1)))) 87 32 ((nI 0))))) (show n ≤ 500 by omega) (fun j hj => hTp j (by omega)) hW h108 (fun a ha => by (repeat rw [zs_nq ha])) (fun j q1 q2 q3 => by rw [zs_nj (by omega), zs_nj (by omega), zs_nj (by omega), zs_nj q1, zs_nj (by omega), zs_nj q2]) rfl rfl rfl rfl ht
      generalize (rTk (rPl ((zs (zs (zs (zs (zs (zs gi 87 2 ((nI 0))) 87 31 ((nI n))) 87 1 ((nI 0))) 87 29 ((nI 0))) 87 30 (((-1)))) 87 32 ((nI 0))))) (nI pl) (nI nx) kd wh) = X1 at hS hD hT hFq hkp ⊢
      have key : ∀ (m : Nat) (i k s b : Nat) (dn : Nat → Nat) (M X : zm_I) (pl nx : Nat) (kd wh : Int32), n - i < m → zLS s b k dn M X → (∀ l, l < 5 → zLD M X dn s l (b.testBit (2 + l))) → zTS n i M X pl nx kd wh → zFrT X1 X → fTxL m M = fTx C n → zB_i x g mX11_terms 7 zSH (fun z gi' gl' gr' => (¬ (nI 0 ≤ nI n ∧ nI n ≤ nI T) ∧ z = -2 ∧ gi' = zs gi 87 2 (nI 0) ∧ gl' = gl ∧ gr' = zRT r) ∨ (∃ m, m ≤ T ∧ nI n = nI m ∧ zTmE gi (fTx C m) z gi' ∧ gl' = gl ∧ gr' = zRT r)) 55 [some (.ref 87), some (.int (nI n)), some (.int (nI k))] [] X gl (zRT r) := by
        intro m
        induction m with
        | zero =>
          intro i k s b dn M X pl nx kd wh hm
          exact absurd hm (by omega)
        | succ m ih =>
          intro i k s b dn M X pl nx kd wh hm hS hD hT hF hR
          obtain ⟨a2, a3, a4, a5, a6, a7, a8⟩ := zTS_av hT
          have h33 := hT.2.2.2.2.1
          have hk0 := zTl_0 a4
          refine zA_aload_0 dX11_terms_55 ?_
          refine zA_getI (v := kd) sh_87 fX11_231 dX11_terms_56 rfl h33 ?_
          refine zA_if_eq 77 dX11_terms_59 (by decide) (fun hk => ?_) (fun hk => ?_)
          · have hR2 : fTx C n = (true, fAv M) := by
              rw [← hR]
              exact if_pos (hk0.mpr hk)
            refine zA_aload_0 dX11_terms_77 ?_
            refine zA_cVv (ct_rKeep g X gl r hS.1.2.2.2.1 hS.1.2.2.2.2 hS.2.2.1.2.2.2) calX11_keep stX11_keep lX11_160 dX11_terms_78 (by decide) (by simp [Value.category]) rfl (Nat.le_refl _) (Nat.le_refl _) sh_87 rfl (fun gi' gl' gr' ⟨e1, e2, e3⟩ => ?_)
            rw [e1, e2, e3]
            clear e1 e2 e3
            refine zA_iload_2 dX11_terms_81 ?_
            exact zB_iret rfl dX11_terms_82 (Or.inr ⟨n, hn, rfl, zTmK (n := n) (i := i) hS hD hFq hF hR2, rfl, rfl⟩)
          · have hR2 : (if (fTl M).1 = true then fTxL m (fTl M).2 else (false, (fTl M).2)) = fTx C n := by
              rw [← hR]
              exact (if_neg (fun q => hk (hk0.mp q))).symm
            refine zA_aload_0 dX11_terms_62 ?_
            refine zA_cVi (ct_rLine g X gl r M hS hD hT) calX11_line stX11_line lX11_329 dX11_terms_63 (by decide) (by simp [Value.category]) rfl (Nat.le_refl _) (Nat.le_refl _) sh_87 rfl (fun zz X2 gl' gr' ⟨⟨hF2, hE⟩, e2, e3⟩ => ?_)
            rw [e2, e3]
            clear e2 e3
            rcases hE with ⟨b1, hz, b2, b3⟩ | ⟨b1, hz, i2, s2, c2, dn2, q1, hS2, hD2, pl2, nx2, kd2, wh2, hT2⟩
            · rw [hz]
              clear hz
              rw [if_neg (by rw [b1]; exact Bool.false_ne_true)] at hR2
              refine zA_if_ne 71 dX11_terms_66 (by decide) (fun hh => absurd hh (by decide)) (fun _ => ?_)
              refine zA_iconst (-1) dX11_terms_69 ic_m1 ?_
              exact zB_iret rfl dX11_terms_70 (Or.inr ⟨n, hn, rfl, zTmF hFq hkp (zFrT_tr hF hF2) hR2.symm b2 b3, rfl, rfl⟩)
            · rw [hz]
              clear hz
              rw [if_pos b1] at hR2
              refine zA_if_ne 71 dX11_terms_66 (by decide) (fun _ => ?_) (fun hh => absurd hh (by decide))
              refine zA_iinc_2 (v := nI (k + 1)) dX11_terms_71 (zn_inc _) rfl ?_
              refine zA_goto 55 dX11_terms_74 (by decide) ?_
              have := hT2.1.2.2.2.1
              exact ih i2 (k + 1) s2 c2 dn2 _ X2 pl2 nx2 kd2 wh2 (by omega) hS2 hD2 hT2 (zFrT_tr hF hF2) hR2
      exact key 501 0 0 0 0 _ (fTx0 C n) X1 pl nx kd wh (by omega) hS hD hT (zFrT_rf _) rfl
    · refine zA_bipush (-2) dX11_terms_17 bc_m2 ?_
      exact zB_iret rfl dX11_terms_19 (Or.inl ⟨fun q => h1 q.2, rfl, rfl, rfl, rfl⟩)
