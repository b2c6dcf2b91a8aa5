/-! heads stay small -/
def zHd (b : Nat) (M : zm_I) : Prop := ∃ h, h ≤ b ∧ M 66 0 = nI h
def zSe (M : zm_I) : Prop := ∀ v, v < 8 → zx (M (5 + v) 1) 501
theorem zSe_ag {M M' : zm_I} (h : zAg M M') (hs : zSe M) : zSe M' := fun v hv => by rw [h (5 + v) (by omega)]; exact hs v hv
theorem zHeads_rng {F : zm_I} {v p : Nat} (hv : v < 8) (hs : zSe F) : zx (fHeads F v p) 501 := by
  obtain ⟨s1, s2⟩ := hs v hv
  unfold fHeads
  rw [s1]
  generalize zi (F (5 + v) 1) = s at *
  generalize F (5 + v) 0 * F (5 + v) (4 + zi (F (23 + p) 0)) / nI 100 - F 73 (p * 8 + v) = l
  have hm : ∃ j, j < 2 ^ 31 ∧ zmax l (nI 0) = nI j := by
    unfold zmax
    by_cases h : l < nI 0
    · rw [if_pos h]; exact ⟨0, by decide, rfl⟩
    · rw [if_neg h]
      exact nI_of h
  obtain ⟨j, hj, ej⟩ := hm
  rw [ej, zmin_N hj (by omega)]
  exact zx_of (by omega) (by decide)
theorem fShow_66 (M : zm_I) (gl : zm_J) (i v p n : Nat) : (fShow M gl i v p n).1 66 0 = M 66 0 + (gl 74 10).toInt32 := by
  unfold fShow
  dsimp only
  rw [zs_nq (by decide), zs_nq (by decide), zs_nq (by decide), zs_nq (by decide), zs_nq (by decide), zs_nj (by decide), zs_nj (by decide), zs_nj (by decide), zs_eq]
theorem zHd_ent {q w n s b : Nat} {P : zm_I × zm_J} {e : Nat} (hb : b < 2 ^ 30) (hs : zSe P.1) (hv : zi (P.1 (q + 3) e) < 8) (h : zHd b P.1) : zHd (b + 500) (fEntS q w n s P e).1 := by
  obtain ⟨h0, h1, h2⟩ := h
  have hF66 : fForget P.1 e 66 = P.1 66 := fForget_row _ _ (by omega)
  unfold fEntS
  split
  · split
    · split
      · next hc =>
        unfold zHd
        rw [fShow_66]
        have z3 := (fCau_zero hc).2.2
        have e74 : (fCau (fForget P.1 e) P.2 w (zi (P.1 (q + 3) e)) (zi (P.1 (q + 4) e)) s n).2 74 10 = (fHeads (fForget P.1 e) (zi (P.1 (q + 3) e)) (zi (P.1 (q + 4) e))).toInt64 := by
          rw [z3, zm_une (by decide)]
          rfl
        obtain ⟨k1, k2⟩ := zHeads_rng (F := fForget P.1 e) (p := zi (P.1 (q + 4) e)) hv (zSe_ag (fForget_ag P.1 e) hs)
        have d66 : ∀ (M : zm_I) (i w v s : Nat), fDrive M i w v s 66 = M 66 := fun M i w v s => by
          unfold fDrive
          rw [zs_nq (by decide), zs_nq (by decide), zs_nq (by decide), zs_nq (by decide)]
        rw [e74, i32_64, d66, zs_nq (by decide), hF66, h2, k1, nI_add]
        exact ⟨_, by omega, rfl⟩
      · refine ⟨h0, by omega, ?_⟩
        dsimp only
        rw [zs_nq (by decide), hF66]
        exact h2
    · exact ⟨h0, by omega, h2⟩
  · exact ⟨h0, by omega, h2⟩
theorem zHd_66 {b : Nat} {M M' : zm_I} (e : M' 66 0 = M 66 0) (h : zHd b M) : zHd b M' := by
  obtain ⟨h0, h1, h2⟩ := h
  exact ⟨h0, h1, e.trans h2⟩
theorem zHd_le {b c : Nat} {M : zm_I} (hbc : b ≤ c) (h : zHd b M) : zHd c M := by
  obtain ⟨h0, h1, h2⟩ := h
  exact ⟨h0, by omega, h2⟩
theorem zHd_tour {q w n s W Pn E K b : Nat} {P : zm_I × zm_J} (hq : q = 27 ∨ q = 76) (hb : b < 2 ^ 25) (hR : zRs q W Pn E K P.1) (hd : zRd W Pn P.1) {n' s' : Nat} (hN : zNi n' s' P.1) (hs : zSe P.1) (h : zHd b P.1) : zHd (b + 13500) (fTour q E w n s P).1 := by
  have hE := hR.2.2.2.2.2.1
  have hA : zAg P.1 (zs (zs P.1 57 18 (nI 0)) 57 19 (nI 0)) := ((zAg.rf P.1).zs (by omega)).zs (by omega)
  have hd0 : zRd W Pn (zs (zs P.1 57 18 (nI 0)) 57 19 (nI 0)) := by unfold zRd; rw [zs_nq (by decide), zs_nq (by decide), zs_nq (by decide), zs_nq (by decide)]; exact hd
  have hR0 := zRs_ag hq hA hR
  have key : ∀ e, e ≤ E → zHd (b + 500 * e) (zit2 (fEntS q w n s) (zs (zs P.1 57 18 (nI 0)) 57 19 (nI 0), P.2) e).1 := by
    intro e
    induction e with
    | zero => exact fun _ => zHd_66 rfl h
    | succ e ih =>
      intro he
      obtain ⟨k1, _, _⟩ := zit2_keep (w := w) (n := n) (s := s) (P := (zs (zs P.1 57 18 (nI 0)) 57 19 (nI 0), P.2)) (n' := n') (s' := s') hq hR0 hd0 hN e (by omega)
      show zHd (b + 500 * (e + 1)) (fEntS q w n s (zit2 (fEntS q w n s) (zs (zs P.1 57 18 (nI 0)) 57 19 (nI 0), P.2) e) e).1
      have := zHd_ent (q := q) (w := w) (n := n) (s := s) (e := e) (by omega) (zSe_ag (hA.tr k1) hs) (by rw [(hA.tr k1) (q + 3) (by omega)]; exact (hR.2.2.2.2.2.2.1 e (by omega)).2.2.1.2) (ih (by omega))
      exact zHd_le (by omega) this
  exact zHd_le (by omega) (key E (Nat.le_refl _))
theorem zHd_go {q : Nat} {sh : Int32} {W Pn E K : Nat} {P : zm_I × zm_J} (hq : q = 27 ∨ q = 76) (hR : zRs q W Pn E K P.1) (hs : zSe P.1) : zHd 162000 (fGo q sh W Pn E K P).1 := by
  have hW := hR.2.1
  have hP := hR.2.2.2.1
  have hB := fBegin_ag P.1 W Pn
  have hRB := zRs_ag hq hB hR
  have hdB := fBegin_rd hR
  have key : ∀ n, n ≤ 4 → zHd (40500 * n) (zit2 (fNiS q sh W Pn E K) (fBegin P.1 W Pn, P.2) n).1 := by
    intro n
    induction n with
    | zero => exact fun _ => ⟨0, Nat.le_refl _, (fBeg_at P.1 hW hP).2.2.2 0 (by decide)⟩
    | succ n ih =>
      intro hn
      obtain ⟨nA, nd⟩ := zit2_ni (sh := sh) (P := (fBegin P.1 W Pn, P.2)) hq hRB hdB n
      have ih' := ih (by omega)
      show zHd (40500 * (n + 1)) (fNiS q sh W Pn E K (zit2 (fNiS q sh W Pn E K) (fBegin P.1 W Pn, P.2) n) n).1
      have hsn := zSe_ag (hB.tr nA) hs
      have nR := zRs_ag hq nA hRB
      generalize zit2 (fNiS q sh W Pn E K) (fBegin P.1 W Pn, P.2) n = N at *
      have a0 := fNi0_ag sh n N.1
      have R0 := zRs_ag hq a0 nR
      obtain ⟨aH, dH⟩ := zit_han (n := n) hq R0 (fNi0_rd (sh := sh) (n := n) nd) K (Nat.le_refl _)
      have RH := zRs_ag hq aH R0
      have NH : zNi n (zsh sh n) (zit (fHanS q n) (fNi0 sh n N.1) K) := by unfold zNi; rw [zit_nq (fHanS_nq (by decide))]; exact ⟨rfl, rfl⟩
      have h0 : zHd (40500 * n) (zit (fHanS q n) (fNi0 sh n N.1) K) := zHd_66 (by rw [zit_nq (fHanS_nq (by decide))]; rfl) ih'
      have kv : ∀ w, w ≤ W → zHd (40500 * n + 13500 * w) (zit2 (fVanS q E n (zsh sh n)) (zit (fHanS q n) (fNi0 sh n N.1) K, N.2) w).1 := by
        intro w
        induction w with
        | zero => exact fun _ => h0
        | succ w ih2 =>
          intro hw
          obtain ⟨vA, vd, vN⟩ := zit2_van (n := n) (s := zsh sh n) (P := (zit (fHanS q n) (fNi0 sh n N.1) K, N.2)) hq RH dH NH w
          show zHd _ (fVanS q E n (zsh sh n) (zit2 (fVanS q E n (zsh sh n)) (zit (fHanS q n) (fNi0 sh n N.1) K, N.2) w) w).1
          unfold fVanS
          split
          · exact zHd_le (by omega) (ih2 (by omega))
          · exact zHd_le (by omega) (zHd_tour (w := w) (n := n) (s := zsh sh n) hq (by omega) (zRs_ag hq vA RH) vd vN (zSe_ag ((a0.tr aH).tr vA) hsn) (ih2 (by omega)))
      unfold fNiS
      dsimp only
      refine zHd_66 ?_ (zHd_le (by omega) (kv W (Nat.le_refl _)))
      rw [zit_nq (fEnd2S_nq (by decide)), zit_nq (fEnd1S_nq (by decide))]
  have h4 := key 4 (Nat.le_refl _)
  unfold fGo
  dsimp only
  have hfi : ∀ (M : zm_I) (i : Nat), zit fFineS M i 66 0 = M 66 0 := by
    intro M i
    induction i with
    | zero => rfl
    | succ i ih =>
      show fFineS (zit fFineS M i) i 66 0 = _
      unfold fFineS
      rw [zs_nj (by decide)]
      exact ih
  have hfu : ∀ (M : zm_I) (i : Nat), zit fFuelS M i 66 0 = M 66 0 := by
    intro M i
    induction i with
    | zero => rfl
    | succ i ih =>
      show fFuelS (zit fFuelS M i) i 66 0 = _
      unfold fFuelS
      rw [zs_nj (by decide), zs_nj (by decide)]
      exact ih
  exact zHd_66 (by rw [hfi, hfu]) (zHd_le (by omega) h4)
/-! the search's row in class and reference -/
def zRow (k : Nat) (D X : zm_I) : Prop := ∀ e, e < k → X 99 (4 * e) = D 77 e ∧ X 99 (4 * e + 1) = D 78 e ∧ X 99 (4 * e + 2) = D 79 e ∧ X 99 (4 * e + 3) = D 80 e
theorem zRow_add {k n w : Nat} {D X : zm_I} {a p : Int32} (h : zRow k D X) : zRow (k + 1) (fAddEB D k n w a p) (rSets X k (nI n) (nI w) a p) := fun e he => by
  by_cases c : e = k
  · subst c
    unfold fAddEB rSets
    refine ⟨?_, ?_, ?_, ?_⟩ <;> simp [zs_at]
  · obtain ⟨m1, m2, m3, m4⟩ := h e (by omega)
    unfold rSets
    refine ⟨?_, ?_, ?_, ?_⟩
    · rw [zs_nj (by omega), zs_nj (by omega), zs_nj (by omega), zs_nj (by omega), fAddEB_far _ (by decide) (by decide) c]; exact m1
    · rw [zs_nj (by omega), zs_nj (by omega), zs_nj (by omega), zs_nj (by omega), fAddEB_far _ (by decide) (by decide) c]; exact m2
    · rw [zs_nj (by omega), zs_nj (by omega), zs_nj (by omega), zs_nj (by omega), fAddEB_far _ (by decide) (by decide) c]; exact m3
    · rw [zs_nj (by omega), zs_nj (by omega), zs_nj (by omega), zs_nj (by omega), fAddEB_far _ (by decide) (by decide) c]; exact m4
theorem zSR_row {W Pn E K E2 : Nat} {C X D Y : zm_I} (hP4 : Pn ≤ 4) (h : zSR 27 W Pn E K C X) (hD : ∀ a, a < 57 → D a = C a) (hY : ∀ a, (a = 89 ∨ (95 ≤ a ∧ a ≤ 98) ∨ a = 100 ∨ a = 105 ∨ a = 107 ∨ (109 ≤ a ∧ a ≤ 116)) → Y a = X a) (h12 : Y 87 12 = X 87 12) (h15 : Y 87 15 = X 87 15) (h20 : Y 87 20 = X 87 20) (hr : zRow E2 D Y) (hh : ∀ i, i < K → D 81 i = C 32 i ∧ D 82 i = C 33 i ∧ D 83 i = C 34 i) : zSR 76 W Pn E2 K D Y := by
  obtain ⟨a1, a2, a3, a4, a5, a6, a7, a8, a9, a10, a11, a12, a13, a14⟩ := h
  refine ⟨h12.trans a1, h15.trans a2, h20.trans a3, fun v k hv hk => ?_, fun s a b hs ha hb => ?_, fun v hv => ?_, fun p k hp hk => ?_, fun n hn => ?_, hr, fun i hi => ?_, ?_, fun l hl => ?_, fun s hs => ?_, fun v hv => ?_⟩
  · rw [hY 89 (by omega), hD (5 + v) (by omega)]; exact a4 v k hv hk
  · rw [hY 105 (by omega), hD (14 + s) (by omega)]; exact a5 s a b hs ha hb
  · rw [hY 95 (by omega), hY 96 (by omega), hD 20 (by omega), hD 21 (by omega)]; exact a6 v hv
  · rw [hY 97 (by omega), hD (23 + p) (by omega)]; exact a7 p k hp hk
  · rw [hY 98 (by omega), hD 2 (by omega)]; exact a8 n hn
  · obtain ⟨b1, b2, b3⟩ := a10 i hi
    obtain ⟨c1, c2, c3⟩ := hh i hi
    rw [hY 100 (by omega)]
    exact ⟨b1.trans c1.symm, b2.trans c2.symm, b3.trans c3.symm⟩
  · rw [hY 107 (by omega), hD 36 (by omega)]; exact a11
  · exact zLn_cg (fun a h1 h2 => hD a (by omega)) (fun a h1 h2 => hY a (by omega)) (a12 l hl)
  · rw [hD (14 + s) (by omega)]; exact a13 s hs
  · rw [hD (5 + v) (by omega)]; exact a14 v hv
