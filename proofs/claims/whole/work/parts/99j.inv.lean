/-! ===== the invariant between two calls ===== -/
def zI1 (V : Nat) (gi : zm_I) : Prop := gi 3 3 = nI V ∧ V ≤ 8 ∧ gi 87 3 = nI V ∧ (∀ v k, v < 8 → k < 8 → gi 89 (8 * v + k) = gi (5 + v) k) ∧ ∀ v, v < 8 → zx (gi (5 + v) 1) 501
def zR1 (a j : Nat) : Prop := (a = 3 ∧ j = 3) ∨ (a = 87 ∧ j = 3) ∨ a = 89 ∨ (5 ≤ a ∧ a ≤ 12)
theorem zI1_cg {V : Nat} {gi gi' : zm_I} (h : ∀ a j, zR1 a j → gi' a j = gi a j) (k : zI1 V gi) : zI1 V gi' := by
  obtain ⟨k1, k2, k3, k4, k5⟩ := k
  refine ⟨(h _ _ (by unfold zR1; omega)).trans k1, k2, (h _ _ (by unfold zR1; omega)).trans k3, fun v j hv hj => ?_, fun v hv => ?_⟩
  · rw [h _ _ (by unfold zR1; omega), h _ _ (by unfold zR1; omega)]; exact k4 v j hv hj
  · rw [h _ _ (by unfold zR1; omega)]; exact k5 v hv
def zI2 (V Rd Ps : Nat) (gi : zm_I) : Prop := gi 3 4 = nI Rd ∧ Rd ≤ 14 ∧ gi 87 5 = nI Rd ∧ zRw gi V Rd ∧ (∀ s, s < 4 → zPt (gi (14 + s)) ∧ zTab (zRo gi Rd s) (zT8 (gi (14 + s)))) ∧ gi 3 5 = nI Ps ∧ Ps ≤ 2 ∧ gi 87 10 = nI Ps ∧ ∀ k, k < Ps → gi 94 k = gi 18 k ∧ ∃ x, 1 ≤ x ∧ x ≤ 15 ∧ gi 94 k = nI x
def zR2 (a j : Nat) : Prop := (a = 3 ∧ (j = 4 ∨ j = 5)) ∨ (a = 87 ∧ (j = 5 ∨ j = 10)) ∨ (90 ≤ a ∧ a ≤ 94) ∨ (14 ≤ a ∧ a ≤ 18)
theorem zI2_cg {V Rd Ps : Nat} {gi gi' : zm_I} (h : ∀ a j, zR2 a j → gi' a j = gi a j) (k : zI2 V Rd Ps gi) : zI2 V Rd Ps gi' := by
  obtain ⟨k1, k2, k3, k4, k5, k6, k7, k8, k9⟩ := k
  have e : ∀ a, (90 ≤ a ∧ a ≤ 94) ∨ (14 ≤ a ∧ a ≤ 18) → gi' a = gi a := fun a ha => funext fun j => h a j (by unfold zR2; omega)
  refine ⟨(h _ _ (by unfold zR2; omega)).trans k1, k2, (h _ _ (by unfold zR2; omega)).trans k3, ?_, fun s hs => ?_, (h _ _ (by unfold zR2; omega)).trans k6, k7, (h _ _ (by unfold zR2; omega)).trans k8, fun k hk => ?_⟩
  · unfold zRw
    rw [e 90 (by omega), e 91 (by omega), e 92 (by omega)]
    exact k4
  · have := k5 s hs
    unfold zRo zOp at this ⊢
    rw [e (14 + s) (by omega), e 90 (by omega), e 91 (by omega), e 92 (by omega), e 93 (by omega)]
    exact this
  · rw [e 94 (by omega), e 18 (by omega)]; exact k9 k hk
def zI3 (W : Nat) (gi : zm_I) : Prop := gi 19 3 = nI W ∧ W ≤ 3 ∧ gi 87 12 = nI W ∧ (∀ v, v < W → gi 95 v = gi 20 v ∧ gi 96 v = gi 21 v ∧ zx (gi 20 v) 8) ∧ ∀ v, W ≤ v → v < 3 → gi 21 v = nI 0
def zR3 (a j : Nat) : Prop := (a = 19 ∧ j = 3) ∨ (a = 87 ∧ j = 12) ∨ a = 95 ∨ a = 96 ∨ a = 20 ∨ a = 21
theorem zI3_cg {W : Nat} {gi gi' : zm_I} (h : ∀ a j, zR3 a j → gi' a j = gi a j) (k : zI3 W gi) : zI3 W gi' := by
  obtain ⟨k1, k2, k3, k4, k5⟩ := k
  have e : ∀ a, (a = 95 ∨ a = 96 ∨ a = 20 ∨ a = 21) → gi' a = gi a := fun a ha => funext fun j => h a j (by unfold zR3; omega)
  refine ⟨(h _ _ (by unfold zR3; omega)).trans k1, k2, (h _ _ (by unfold zR3; omega)).trans k3, ?_, ?_⟩
  · rw [e 95 (by omega), e 96 (by omega), e 20 (by omega), e 21 (by omega)]; exact k4
  · rw [e 21 (by omega)]; exact k5
def zI4 (W Pn : Nat) (gi : zm_I) : Prop := gi 19 4 = nI Pn ∧ Pn ≤ 4 ∧ gi 87 15 = nI Pn ∧ (∀ p k, p < Pn → k < 7 → gi 97 (7 * p + k) = gi (23 + p) k) ∧ ∀ p, p < Pn → zx (gi (23 + p) 0) 4 ∧ zx (gi (23 + p) 3) W ∧ zx (gi (23 + p) 5) 5
def zR4 (a j : Nat) : Prop := (a = 19 ∧ j = 4) ∨ (a = 87 ∧ j = 15) ∨ a = 97 ∨ (23 ≤ a ∧ a ≤ 26)
theorem zI4_cg {W Pn : Nat} {gi gi' : zm_I} (h : ∀ a j, zR4 a j → gi' a j = gi a j) (k : zI4 W Pn gi) : zI4 W Pn gi' := by
  obtain ⟨k1, k2, k3, k4, k5⟩ := k
  refine ⟨(h _ _ (by unfold zR4; omega)).trans k1, k2, (h _ _ (by unfold zR4; omega)).trans k3, fun p j hp hj => ?_, fun p hp => ?_⟩
  · rw [h _ _ (by unfold zR4; omega), h _ _ (by unfold zR4; omega)]; exact k4 p j hp hj
  · rw [h _ _ (by unfold zR4; omega), h _ _ (by unfold zR4; omega), h _ _ (by unfold zR4; omega)]; exact k5 p hp
def zI5 (gi : zm_I) : Prop := ∀ n, n < 4 → gi 98 n = gi 2 n ∧ ∃ k, 1 ≤ k ∧ k ≤ 99 ∧ gi 2 n = nI k
def zR5 (a _j : Nat) : Prop := a = 98 ∨ a = 2
theorem zI5_cg {gi gi' : zm_I} (h : ∀ a j, zR5 a j → gi' a j = gi a j) (k : zI5 gi) : zI5 gi' := fun n hn => by
  rw [h 98 n (Or.inl rfl), h 2 n (Or.inr rfl)]; exact k n hn
def zI6 (W Pn E : Nat) (gi : zm_I) : Prop := gi 27 8 = nI E ∧ E ≤ 24 ∧ gi 87 18 = nI E ∧ (∀ e, e < E → gi 99 (4 * e) = gi 28 e ∧ gi 99 (4 * e + 1) = gi 29 e ∧ gi 99 (4 * e + 2) = gi 30 e ∧ gi 99 (4 * e + 3) = gi 31 e) ∧ zEn 27 W Pn E gi ∧ zPlX 27 E gi
def zR6 (a j : Nat) : Prop := (a = 27 ∧ j = 8) ∨ (a = 87 ∧ j = 18) ∨ (a = 99 ∧ j < 108) ∨ (28 ≤ a ∧ a ≤ 31) ∨ a = 35
theorem zI6_cg {W Pn E : Nat} {gi gi' : zm_I} (h : ∀ a j, zR6 a j → gi' a j = gi a j) (k : zI6 W Pn E gi) : zI6 W Pn E gi' := by
  obtain ⟨k1, k2, k3, k4, k5, k6⟩ := k
  have e : ∀ a, (28 ≤ a ∧ a ≤ 31) ∨ a = 35 → gi' a = gi a := fun a ha => funext fun j => h a j (by unfold zR6; omega)
  refine ⟨(h _ _ (by unfold zR6; omega)).trans k1, k2, (h _ _ (by unfold zR6; omega)).trans k3, fun i hi => ?_, fun i hi => ?_, fun n w hn hw => ?_⟩
  · rw [e 28 (by omega), e 29 (by omega), e 30 (by omega), e 31 (by omega), h _ _ (by unfold zR6; omega), h _ _ (by unfold zR6; omega), h _ _ (by unfold zR6; omega), h _ _ (by unfold zR6; omega)]; exact k4 i hi
  · have := k5 i hi
    rw [e (27 + 1) (by omega), e (27 + 2) (by omega), e (27 + 3) (by omega), e (27 + 4) (by omega)]; exact this
  · rw [e (27 + 8) (by omega), zPc_cg E (fun i _ => by rw [e (27 + 1) (by omega), e (27 + 2) (by omega)]; exact ⟨rfl, rfl⟩)]; exact k6 n w hn hw
def zI7 (W Pn K : Nat) (gi : zm_I) : Prop := gi 27 9 = nI K ∧ K ≤ 12 ∧ gi 87 20 = nI K ∧ (∀ i, i < K → gi 100 (3 * i) = gi 32 i ∧ gi 100 (3 * i + 1) = gi 33 i ∧ gi 100 (3 * i + 2) = gi 34 i) ∧ ∀ i, i < K → zx (gi 32 i) 4 ∧ zx (gi 33 i) Pn ∧ zx (gi 34 i) W
def zR7 (a j : Nat) : Prop := (a = 27 ∧ j = 9) ∨ (a = 87 ∧ j = 20) ∨ a = 100 ∨ (32 ≤ a ∧ a ≤ 34)
theorem zI7_cg {W Pn K : Nat} {gi gi' : zm_I} (h : ∀ a j, zR7 a j → gi' a j = gi a j) (k : zI7 W Pn K gi) : zI7 W Pn K gi' := by
  obtain ⟨k1, k2, k3, k4, k5⟩ := k
  have e : ∀ a, a = 100 ∨ (32 ≤ a ∧ a ≤ 34) → gi' a = gi a := fun a ha => funext fun j => h a j (by unfold zR7; omega)
  refine ⟨(h _ _ (by unfold zR7; omega)).trans k1, k2, (h _ _ (by unfold zR7; omega)).trans k3, ?_, ?_⟩
  · rw [e 100 (by omega), e 32 (by omega), e 33 (by omega), e 34 (by omega)]; exact k4
  · rw [e 32 (by omega), e 33 (by omega), e 34 (by omega)]; exact k5
def zI8 (gi : zm_I) : Prop := gi 107 0 = gi 36 5 ∧ gi 107 1 = gi 36 6 ∧ gi 87 46 = gi 36 8 ∧ (∀ l, l < 5 → zLn gi gi l) ∧ zLaw gi
def zR8 (a j : Nat) : Prop := (a = 107 ∧ j < 2) ∨ (a = 36 ∧ 5 ≤ j ∧ j ≤ 8) ∨ (a = 87 ∧ j = 46) ∨ (37 ≤ a ∧ a ≤ 40) ∨ a = 109 ∨ (110 ≤ a ∧ a ≤ 114 ∧ j < 64) ∨ (115 ≤ a ∧ a ≤ 116 ∧ j < 5)
theorem zLn_cgl {C C' X X' : zm_I} {l : Nat} (hl : l < 5) (hc : ∀ a, 37 ≤ a → a ≤ 40 → C' a = C a) (h9 : X' 109 = X 109) (hx : ∀ a j, 110 ≤ a → a ≤ 114 → j < 64 → X' a j = X a j) (h5 : X' 115 l = X 115 l) (h6 : X' 116 l = X 116 l) (h : zLn C X l) : zLn C' X' l := by
  unfold zLn at h ⊢
  rw [hc 39 (by decide) (by decide), hc 40 (by decide) (by decide), h9, h5, h6]
  rcases h with h | ⟨s0, m, f0, q1, q2, q3, q4, q5, q6, q7, q8, st, e1, e2, e3⟩
  · exact Or.inl h
  · refine Or.inr ⟨s0, m, f0, q1, q2, q3, q4, q5, q6, q7, q8, st, e1, e2, fun i hi => ?_⟩
    obtain ⟨a1, a2⟩ := e3 i hi
    rw [hx 114 (f0 + i) (by decide) (by decide) (by omega)]
    refine ⟨a1, ?_⟩
    have a0 := a2.1
    unfold zNd at a2 ⊢
    rw [hc 37 (by decide) (by decide), hc 38 (by decide) (by decide), hx 110 _ (by decide) (by decide) a0, hx 111 _ (by decide) (by decide) a0, hx 112 _ (by decide) (by decide) a0, hx 113 _ (by decide) (by decide) a0]
    exact a2
theorem zLaw_cg {C C' : zm_I} (hc : ∀ a, 37 ≤ a → a ≤ 40 → C' a = C a) (h : zLaw C) : zLaw C' := by
  unfold zLaw at h ⊢
  rw [hc 37 (by decide) (by decide), hc 38 (by decide) (by decide), hc 39 (by decide) (by decide), hc 40 (by decide) (by decide)]
  exact h
theorem zI8_cg {gi gi' : zm_I} (h : ∀ a j, zR8 a j → gi' a j = gi a j) (k : zI8 gi) : zI8 gi' := by
  obtain ⟨k1, k2, k3, k4, k5⟩ := k
  have e : ∀ a, 37 ≤ a → a ≤ 40 → gi' a = gi a := fun a h1 h2 => funext fun j => h a j (by unfold zR8; omega)
  refine ⟨?_, ?_, ?_, fun l hl => zLn_cgl hl e (funext fun j => h 109 j (by unfold zR8; omega)) (fun a j h1 h2 h3 => h a j (by unfold zR8; omega)) (h _ _ (by unfold zR8; omega)) (h _ _ (by unfold zR8; omega)) (k4 l hl), zLaw_cg e k5⟩
  · rw [h _ _ (by unfold zR8; omega), h _ _ (by unfold zR8; omega)]; exact k1
  · rw [h _ _ (by unfold zR8; omega), h _ _ (by unfold zR8; omega)]; exact k2
  · rw [h _ _ (by unfold zR8; omega), h _ _ (by unfold zR8; omega)]; exact k3
def zI9 (T : Nat) (gi : zm_I) : Prop := gi 51 5 = nI T ∧ T ≤ 40 ∧ gi 87 22 = nI T ∧ zNt T gi gi
def zR9 (a j : Nat) : Prop := (a = 51 ∧ j = 5) ∨ (a = 87 ∧ j = 22) ∨ (52 ≤ a ∧ a ≤ 55) ∨ (101 ≤ a ∧ a ≤ 103)
theorem zI9_cg {T : Nat} {gi gi' : zm_I} (h : ∀ a j, zR9 a j → gi' a j = gi a j) (k : zI9 T gi) : zI9 T gi' := by
  obtain ⟨k1, k2, k3, k4⟩ := k
  have e : ∀ a, (52 ≤ a ∧ a ≤ 55) ∨ (101 ≤ a ∧ a ≤ 103) → gi' a = gi a := fun a ha => funext fun j => h a j (by unfold zR9; omega)
  refine ⟨(h _ _ (by unfold zR9; omega)).trans k1, k2, (h _ _ (by unfold zR9; omega)).trans k3, ?_⟩
  unfold zNt at k4 ⊢
  rw [e 52 (by omega), e 53 (by omega), e 54 (by omega), e 55 (by omega), e 101 (by omega), e 102 (by omega), e 103 (by omega)]
  exact k4
def zI10 (Tp : Nat) (gi : zm_I) : Prop := gi 0 10 = nI Tp ∧ Tp ≤ 500 ∧ gi 87 1 = nI Tp ∧ zTp Tp (gi 1) (gi 88)
def zR10 (a j : Nat) : Prop := (a = 0 ∧ j = 10) ∨ (a = 87 ∧ j = 1) ∨ a = 1 ∨ a = 88
theorem zI10_cg {Tp : Nat} {gi gi' : zm_I} (h : ∀ a j, zR10 a j → gi' a j = gi a j) (k : zI10 Tp gi) : zI10 Tp gi' := by
  obtain ⟨k1, k2, k3, k4⟩ := k
  refine ⟨(h _ _ (by unfold zR10; omega)).trans k1, k2, (h _ _ (by unfold zR10; omega)).trans k3, fun i hi => ?_⟩
  rw [h _ _ (by unfold zR10; omega), h _ _ (by unfold zR10; omega)]
  exact k4 i hi
def zI11 (gi : zm_I) : Prop := gi 87 29 = gi 42 7 ∧ gi 87 30 = gi 42 8 ∧ zx (gi 42 3) 73 ∧ zWs gi ∧ ∀ j, gi 108 j = 0 ∨ gi 108 j = 1
def zR11 (a j : Nat) : Prop := (a = 87 ∧ (j = 29 ∨ j = 30)) ∨ (a = 42 ∧ (j = 3 ∨ j = 7 ∨ j = 8)) ∨ a = 106 ∨ a = 108
theorem zI11_cg {gi gi' : zm_I} (h : ∀ a j, zR11 a j → gi' a j = gi a j) (k : zI11 gi) : zI11 gi' := by
  obtain ⟨k1, k2, k3, k4, k5⟩ := k
  refine ⟨?_, ?_, ?_, fun j hj => ?_, fun j => ?_⟩
  · rw [h _ _ (by unfold zR11; omega), h _ _ (by unfold zR11; omega)]; exact k1
  · rw [h _ _ (by unfold zR11; omega), h _ _ (by unfold zR11; omega)]; exact k2
  · rw [h _ _ (by unfold zR11; omega)]; exact k3
  · rw [h _ _ (by unfold zR11; omega)]; exact k4 j hj
  · rw [h _ _ (by unfold zR11; omega)]; exact k5 j
def zI12 (gi : zm_I) : Prop := (gi 75 8 = 0 ∧ gi 87 83 = 0) ∨ (¬ gi 75 8 = 0 ∧ ¬ gi 87 83 = 0 ∧ gi 87 84 = gi 75 7 ∧ gi 87 85 = gi 75 8 ∧ ∀ j, j < 3 → gi 133 j = gi 86 j)
def zR12 (a j : Nat) : Prop := (a = 75 ∧ (j = 7 ∨ j = 8)) ∨ (a = 87 ∧ 83 ≤ j ∧ j ≤ 85) ∨ a = 133 ∨ a = 86
theorem zI12_cg {gi gi' : zm_I} (h : ∀ a j, zR12 a j → gi' a j = gi a j) (k : zI12 gi) : zI12 gi' := by
  unfold zI12 at k ⊢
  rw [h 75 8 (by unfold zR12; omega), h 75 7 (by unfold zR12; omega), h 87 83 (by unfold zR12; omega), h 87 84 (by unfold zR12; omega), h 87 85 (by unfold zR12; omega)]
  rcases k with k | ⟨k1, k2, k3, k4, k5⟩
  · exact Or.inl k
  · exact Or.inr ⟨k1, k2, k3, k4, fun j hj => by rw [h _ _ (by unfold zR12; omega), h _ _ (by unfold zR12; omega)]; exact k5 j hj⟩
def zR13 (a _j : Nat) : Prop := a = 59
theorem zC8_cg {gi gi' : zm_I} (h : ∀ a j, zR13 a j → gi' a j = gi a j) (k : zC8 gi) : zC8 gi' := fun e => by rw [h 59 e rfl]; exact k e
/-- the invariant -/
def zIv (gi : zm_I) : Prop := ∃ V W Pn E K Rd Ps T Tp, zI1 V gi ∧ zI2 V Rd Ps gi ∧ zI3 W gi ∧ zI4 W Pn gi ∧ zI5 gi ∧ zI6 W Pn E gi ∧ zI7 W Pn K gi ∧ zI8 gi ∧ zI9 T gi ∧ zI10 Tp gi ∧ zI11 gi ∧ zI12 gi ∧ zC8 gi
theorem zIv_RH {V W Pn E K Rd Ps : Nat} {gi : zm_I} (h1 : zI1 V gi) (h2 : zI2 V Rd Ps gi) (h3 : zI3 W gi) (h4 : zI4 W Pn gi) (h5 : zI5 gi) (h6 : zI6 W Pn E gi) (h7 : zI7 W Pn K gi) (h8 : zI8 gi) : zRH V W Pn E K Rd gi gi := by
  have h68 : E ≤ 24 := h6.2.1
  refine ⟨⟨h3.1, h3.2.1, h4.1, h4.2.1, h6.1, by omega, h6.2.2.2.2.1, h7.1, h7.2.1, h7.2.2.2.2, fun p hp => ⟨(h4.2.2.2.2 p hp).1, (h4.2.2.2.2 p hp).2.1⟩, fun v hv => (h3.2.2.2.1 v hv).2.2, h8.2.2.2.2⟩, fun t ht => ⟨h3.2.2.1, h4.2.2.1, h7.2.2.1, h1.2.2.2.1, fun s a b hs ha hb => ?_, fun v hv => ⟨(h3.2.2.2.1 v hv).1, (h3.2.2.2.1 v hv).2.1⟩, h4.2.2.2.1, h5, h6.2.2.2.1, h7.2.2.2.1, ⟨h8.1, h8.2.1⟩, fun l hl => zLn_cg (C := gi) (X := gi) (fun _ _ _ => rfl) (fun a q1 q2 => zm_une (by omega)) (h8.2.2.2.1 l hl), fun s hs => (h2.2.2.2.2.1 s hs).1, fun v hv q => ?_⟩, zPlX_h h3.2.1 (by omega) h6.2.2.2.2.2, fun p hp => (h4.2.2.2.2 p hp).2.2, ⟨h1.2.2.1, h1.2.1, h2.2.2.1, h2.2.1, h2.2.2.2.1, h2.2.2.2.2.1, fun _ _ => rfl⟩, h6.2.2.1, h68, h3.2.2.1, h4.2.2.1⟩
  · rw [va_up_self]; exact ht s a b hs ha hb
  · rw [(h1.2.2.2.2 v hv).1] at q
    exact absurd q (Int32.not_lt.mpr (nI_pos' (by have := (h1.2.2.2.2 v hv).2; omega)))
/-- the reference's side moves only in what a question leaves alone -/
theorem zRH_cg {V W Pn E K Rd : Nat} {C X X' : zm_I} (hx : ∀ a, 87 ≤ a ∨ (14 ≤ a ∧ a ≤ 17) → X' a = X a) (h : zRH V W Pn E K Rd C X) : zRH V W Pn E K Rd C X' := by
  obtain ⟨h1, h2, h3, h4, ⟨g1, g2, g3, g4, g5, g6, g7⟩, h6, h7, h8, h9⟩ := h
  have e87 : X' 87 = X 87 := hx 87 (by omega)
  refine ⟨h1, fun t ht => ?_, h3, h4, ⟨by rw [e87]; exact g1, g2, by rw [e87]; exact g3, g4, ?_, fun s hs => ?_, fun s hs => by rw [hx (14 + s) (by omega)]; exact g7 s hs⟩, by rw [e87]; exact h6, h7, by rw [e87]; exact h8, by rw [e87]; exact h9⟩
  · have := h2 t ht
    have e : ∀ a, 87 ≤ a → va_up X' 105 t a = va_up X 105 t a := fun a ha => by
      by_cases c : a = 105
      · subst c; rw [va_up_self, va_up_self]
      · rw [zm_une c, zm_une c, hx a (Or.inl ha)]
    obtain ⟨a1, a2, a3, a4, a5, a6, a7, a8, a9, a10, a11, a12, a13, a14⟩ := this
    refine ⟨by rw [e 87 (by omega)]; exact a1, by rw [e 87 (by omega)]; exact a2, by rw [e 87 (by omega)]; exact a3, by rw [e 89 (by omega)]; exact a4, by rw [e 105 (by omega)]; exact a5, by rw [e 95 (by omega), e 96 (by omega)]; exact a6, by rw [e 97 (by omega)]; exact a7, by rw [e 98 (by omega)]; exact a8, by rw [e 99 (by omega)]; exact a9, by rw [e 100 (by omega)]; exact a10, by rw [e 107 (by omega)]; exact a11, fun l hl => zLn_cg (fun _ _ _ => rfl) (fun a q1 q2 => e a (by omega)) (a12 l hl), a13, a14⟩
  · unfold zRw
    rw [hx 90 (by omega), hx 91 (by omega), hx 92 (by omega)]
    exact g5
  · have := g6 s hs
    unfold zRo zOp at this ⊢
    rw [hx (14 + s) (by omega), hx 90 (by omega), hx 91 (by omega), hx 92 (by omega), hx 93 (by omega)]
    exact this
