/-! ===== a run in class and reference: what stands in both ===== -/
def zXg (X X' : zm_I) : Prop := (∀ a, (a < 122 ∨ 132 < a) → a ≠ 87 → X' a = X a) ∧ ∀ j, (j < 60 ∨ 82 < j) → X' 87 j = X 87 j
theorem zXg_rf (X : zm_I) : zXg X X := ⟨fun _ _ _ => rfl, fun _ _ => rfl⟩
theorem zXg_tr {A B D : zm_I} (h : zXg A B) (h2 : zXg B D) : zXg A D := ⟨fun a h3 h4 => (h2.1 a h3 h4).trans (h.1 a h3 h4), fun j h3 => (h2.2 j h3).trans (h.2 j h3)⟩
theorem zXg_zs {A M : zm_I} (h : zXg A M) {q j : Nat} {v : Int32} (hq : (122 ≤ q ∧ q ≤ 132) ∨ (q = 87 ∧ 60 ≤ j ∧ j ≤ 82)) : zXg A (zs M q j v) := by
  refine ⟨fun a ha h7 => ?_, fun i hi => ?_⟩
  · rw [zs_nq (by omega)]
    exact h.1 a ha h7
  · rw [zs_at, if_neg (by omega)]
    exact h.2 i hi
def zSR (q W Pn E K : Nat) (C X : zm_I) : Prop :=
  X 87 12 = nI W ∧ X 87 15 = nI Pn ∧ X 87 20 = nI K ∧
  (∀ v k, v < 8 → k < 8 → X 89 (8 * v + k) = C (5 + v) k) ∧
  (∀ s a b, s < 4 → a < 8 → b < 8 → X 105 (64 * s + 8 * a + b) = C (14 + s) (a * 8 + b)) ∧
  (∀ v, v < W → X 95 v = C 20 v ∧ X 96 v = C 21 v) ∧
  (∀ p k, p < Pn → k < 7 → X 97 (7 * p + k) = C (23 + p) k) ∧
  (∀ n, n < 4 → X 98 n = C 2 n ∧ ∃ k, 1 ≤ k ∧ k ≤ 99 ∧ C 2 n = nI k) ∧
  (∀ e, e < E → X 99 (4 * e) = C (q + 1) e ∧ X 99 (4 * e + 1) = C (q + 2) e ∧ X 99 (4 * e + 2) = C (q + 3) e ∧ X 99 (4 * e + 3) = C (q + 4) e) ∧
  (∀ i, i < K → X 100 (3 * i) = C (q + 5) i ∧ X 100 (3 * i + 1) = C (q + 6) i ∧ X 100 (3 * i + 2) = C (q + 7) i) ∧
  (X 107 0 = C 36 5 ∧ X 107 1 = C 36 6) ∧ (∀ l, l < 5 → zLn C X l) ∧ (∀ s, s < 4 → zPt (C (14 + s))) ∧ ∀ v, v < 8 → ¬ C (5 + v) 1 < 0
theorem zNd_cg {C C' X X' : zm_I} {l c a : Nat} {S S' : List Nat} (c1 : C' 37 = C 37) (c2 : C' 38 = C 38) (h1 : X' 110 = X 110) (h2 : X' 111 = X 111) (h3 : X' 112 = X 112) (h4 : X' 113 = X 113) (h : zNd C X l c a S S') : zNd C' X' l c a S S' := by
  unfold zNd at h ⊢
  rw [c1, c2, h1, h2, h3, h4]
  exact h
theorem zLn_cg {C C' X X' : zm_I} {l : Nat} (hc : ∀ a, 37 ≤ a → a ≤ 40 → C' a = C a) (hx : ∀ a, 109 ≤ a → a ≤ 116 → X' a = X a) (h : zLn C X l) : zLn C' X' l := by
  unfold zLn at h ⊢
  rw [hc 39 (by omega) (by omega), hc 40 (by omega) (by omega), hx 109 (by omega) (by omega), hx 115 (by omega) (by omega), hx 116 (by omega) (by omega)]
  rcases h with h | ⟨s0, m, f0, a1, a2, a3, a4, a5, a6, a7, a8, st, t0, t1, tn⟩
  · exact Or.inl h
  · refine Or.inr ⟨s0, m, f0, a1, a2, a3, a4, a5, a6, a7, a8, st, t0, t1, fun i hi => ?_⟩
    rw [hx 114 (by omega) (by omega)]
    exact ⟨(tn i hi).1, zNd_cg (hc 37 (by omega) (by omega)) (hc 38 (by omega) (by omega)) (hx 110 (by omega) (by omega)) (hx 111 (by omega) (by omega)) (hx 112 (by omega) (by omega)) (hx 113 (by omega) (by omega)) (tn i hi).2⟩
theorem zSR_ag {q W Pn E K : Nat} {C C' X X' : zm_I} (hP4 : Pn ≤ 4) (hq : q = 27 ∨ q = 76) (hC : zAg C C') (hX : zXg X X') (h : zSR q W Pn E K C X) : zSR q W Pn E K C' X' := by
  obtain ⟨a1, a2, a3, a4, a5, a6, a7, a8, a9, a10, a11, a12, a13, a14⟩ := h
  have hx : ∀ a, (a < 122 ∨ 132 < a) → a ≠ 87 → X' a = X a := hX.1
  refine ⟨by rw [hX.2 12 (by omega)]; exact a1, by rw [hX.2 15 (by omega)]; exact a2, by rw [hX.2 20 (by omega)]; exact a3, fun v k hv hk => ?_, fun s a b hs ha hb => ?_, fun v hv => ?_, fun p k hp hk => ?_, fun n hn => ?_, fun e he => ?_, fun i hi => ?_, ?_, fun l hl => ?_, fun s hs => ?_, fun v hv => ?_⟩
  · rw [hx 89 (by omega) (by omega), hC (5 + v) (by omega)]; exact a4 v k hv hk
  · rw [hx 105 (by omega) (by omega), hC (14 + s) (by omega)]; exact a5 s a b hs ha hb
  · rw [hx 95 (by omega) (by omega), hx 96 (by omega) (by omega), hC 20 (by omega), hC 21 (by omega)]; exact a6 v hv
  · rw [hx 97 (by omega) (by omega), hC (23 + p) (by omega)]; exact a7 p k hp hk
  · rw [hx 98 (by omega) (by omega), hC 2 (by omega)]; exact a8 n hn
  · rw [hx 99 (by omega) (by omega), hC (q + 1) (by omega), hC (q + 2) (by omega), hC (q + 3) (by omega), hC (q + 4) (by omega)]; exact a9 e he
  · rw [hx 100 (by omega) (by omega), hC (q + 5) (by omega), hC (q + 6) (by omega), hC (q + 7) (by omega)]; exact a10 i hi
  · rw [hx 107 (by omega) (by omega), hC 36 (by omega)]; exact a11
  · exact zLn_cg (fun a h1 h2 => hC a (by omega)) (fun a h1 h2 => hx a (by omega) (by omega)) (a12 l hl)
  · rw [hC (14 + s) (by omega)]; exact a13 s hs
  · rw [hC (5 + v) (by omega)]; exact a14 v hv
/-- what a run carries along -/
def zDR (W Pn : Nat) (C X : zm_I) : Prop :=
  (∀ v, v < W → X 122 v = C 67 v ∧ X 123 v = C 69 v) ∧ (∀ p, p < Pn → X 127 p = C 70 p ∧ X 128 p = C 72 p ∧ X 132 p = C 71 p) ∧
  (∀ j, j < 32 → X 129 j = C 73 j) ∧ X 87 79 = C 66 0 ∧ X 87 78 = C 66 1 ∧ X 87 80 = C 66 2 ∧ X 87 82 = C 66 4 ∧ X 87 81 = C 66 3
def zNR (C X : zm_I) : Prop := ∀ v, v < 8 → X 126 v = zb (zbit (C 57 17) v)
def zTR (w : Nat) (C X : zm_I) : Prop := X 124 w = C 57 18 ∧ X 125 w = C 57 19 ∧ ∃ k, k ≤ 2 ∧ C 57 19 = nI k
theorem fFew_far {C : zm_I} {a b s : Nat} (ha : a < 8) (hb : b < 8) (h : zPt (C (14 + s))) : (C (14 + s) (a * 8 + b) = nI 1000000 → fFew C a b s = -1) ∧ (¬ C (14 + s) (a * 8 + b) = nI 1000000 → fFew C a b s = C (14 + s) (a * 8 + b) ∧ ¬ fFew C a b s = -1) := by
  obtain ⟨h1, h2⟩ := h (a * 8 + b) (by omega)
  have e : (1000000 : Int32) = nI 1000000 := by decide
  unfold fFew
  constructor
  · intro q
    rw [if_pos (by rw [q, e]; exact Int32.le_refl _)]
  · intro q
    have hn : ¬ (1000000 : Int32) ≤ C (14 + s) (a * 8 + b) := fun z => q (by
      rw [h1, e] at z
      have := (nI_leI (by omega) (by omega)).mp z
      rw [h1, show zi (C (14 + s) (a * 8 + b)) = 1000000 by omega])
    rw [if_neg hn]
    refine ⟨rfl, fun z => ?_⟩
    rw [h1] at z
    exact absurd (by rw [z]; decide) (nI_pos (n := zi (C (14 + s) (a * 8 + b))) (by omega))
