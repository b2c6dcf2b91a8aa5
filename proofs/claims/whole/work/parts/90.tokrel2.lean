/-- a token as the head of a line, or where no words mean anything: reference's kind and which, class's kind and value -/
def zTl (kd wh kc vc : Int32) : Prop := (kd = nI 0 ∧ kc = nI 0) ∨ (kd = nI 4 ∧ kc = nI 1) ∨ (kd = nI 2 ∧ kc = nI 3 ∧ zNv vc wh) ∨ (kd = nI 3 ∧ ¬ wh = -1 ∧ zSgR kc wh) ∨ ((kd = nI 1 ∨ kd = nI 4) ∧ kc = nI 2)
/-- a token inside an expression -/
def zTe (kd wh kc vc : Int32) : Prop := (kd = nI 0 ∧ kc = nI 0) ∨ (kd = nI 4 ∧ kc = nI 1) ∨ (kd = nI 2 ∧ kc = nI 3 ∧ zNv vc wh) ∨ (kd = nI 3 ∧ ¬ wh = -1 ∧ zSgR kc wh) ∨
  (kd = nI 1 ∧ ∃ k, k < 21 ∧ wh = nI k ∧ ((1 ≤ k ∧ k ≤ 6 ∧ kc = nI 1) ∨ (7 ≤ k ∧ k ≤ 9 ∧ kc = nI (k + 1)) ∨ (k = 0 ∧ kc = nI 4 ∧ vc = nI 8) ∨ (10 ≤ k ∧ kc = nI 4 ∧ vc = nI (k - 10))))
theorem fWrd_gt {t : Nat → Int32} {m i : Nat} (h : fLet (t i)) : i + 1 ≤ fWrd t (m + 1) i := by
  have e : fWrd t (m + 1) i = fWrd t m (i + 1) := if_pos h
  rw [e]
  exact (fWrd_le t m (i + 1)).1
theorem rNum_gt {r : Nat → Int32} : ∀ (m i : Nat) (v : Int32), i ≤ (rNum r m i v).1 ∧ (rNum r m i v).1 ≤ i + m
  | 0, i, v => ⟨Nat.le_refl _, Nat.le_refl _⟩
  | m + 1, i, v => by
    have h := rNum_gt (r := r) m (i + 1) (if nI 99999 < v then v else nI 10 * v + r i - nI 48)
    show i ≤ (if fDig (r i) then rNum r m (i + 1) (if nI 99999 < v then v else nI 10 * v + r i - nI 48) else (i, v)).1 ∧ (if fDig (r i) then rNum r m (i + 1) (if nI 99999 < v then v else nI 10 * v + r i - nI 48) else (i, v)).1 ≤ i + (m + 1)
    split
    · omega
    · exact ⟨Nat.le_refl _, by show i ≤ _; omega⟩
theorem rTkP_le {r : Nat → Int32} {n i pl nx : Nat} {w0 kd wh : Int32} (hin : i ≤ n) (h : rTkP r n i w0 pl nx kd wh) : i ≤ pl ∧ pl ≤ nx ∧ (pl < n → pl < nx ∧ nx ≤ n) ∧ pl ≤ n := by
  obtain ⟨h1, h2⟩ := h
  have hs := fSkp_le r (n - i) i
  rw [← h1] at hs
  rcases h2 with ⟨a1, a2, a3, a4⟩ | ⟨a1, a2, a3, a4, a5⟩ | ⟨a1, a2, a3, a4, a5⟩ | ⟨a1, a2, a3, a4, a5, a6⟩
  · exact ⟨by omega, by omega, fun q => by omega, by omega⟩
  · have e : n - pl = (n - pl - 1) + 1 := by omega
    have h3 := fWrd_gt (m := n - pl - 1) a2
    rw [← e, ← a3] at h3
    have h4 := (fWrd_le r (n - pl) pl).2
    rw [← a3] at h4
    exact ⟨by omega, by omega, fun q => by omega, by omega⟩
  · have e : n - pl = (n - pl - 1) + 1 := by omega
    have h3 : rNum r (n - pl) pl (nI 0) = rNum r (n - pl - 1) (pl + 1) (if nI 99999 < nI 0 then nI 0 else nI 10 * nI 0 + r pl - nI 48) := by
      rw [e]
      exact if_pos a3
    have h4 := rNum_gt (r := r) (n - pl - 1) (pl + 1) (if nI 99999 < nI 0 then nI 0 else nI 10 * nI 0 + r pl - nI 48)
    rw [← h3, a4] at h4
    dsimp only at h4
    exact ⟨by omega, by omega, fun q => by omega, by omega⟩
  · by_cases c : wh = nI 2 ∨ wh = nI 4 ∨ wh = nI 5
    · rw [if_pos c] at a6
      have h5 : pl + 1 < n := by
        by_cases q : pl + 1 < n
        · exact q
        · exfalso
          rw [a4] at c
          unfold rSg at c
          revert c
          split
          · rw [if_neg (fun z => q z.1), if_neg (fun z => q z.1)]; decide
          · split
            · rw [if_neg (fun z => q z.1)]; decide
            · split
              · decide
              · split
                · decide
                · split
                  · decide
                  · split
                    · decide
                    · split
                      · decide
                      · split
                        · decide
                        · split
                          · next h => rw [h]; decide
                          · split
                            · next h => rw [h]; decide
                            · split
                              · next h => rw [h]; decide
                              · decide
      exact ⟨by omega, by omega, fun q => by omega, by omega⟩
    · rw [if_neg c] at a6
      exact ⟨by omega, by omega, fun q => by omega, by omega⟩
theorem nI_nm1 {k : Nat} (h : k < 2 ^ 31) : ¬ nI k = -1 := fun z => absurd (by rw [z]; decide) (nI_pos (n := k) h)
/-- class and reference read the same token -/
theorem zTk {M : zm_I} {r : Nat → Int32} {n i pl nx : Nat} {w0 kd wh : Int32} (h1 : M 50 1 = nI n) (hn : n ≤ 500) (h3 : M 50 3 = nI i) (hin : i ≤ n) (hT : zTp n (M 1) r) (h : rTkP r n i w0 pl nx kd wh) :
    fAv M 50 2 = nI pl ∧ fAv M 50 3 = nI nx ∧ zTl kd wh (fAv M 50 4) (fAv M 50 5) ∧ (fAv M 50 4 = nI 2 → pl < n ∧ fLet (r pl) ∧ zWa r pl nx wh ∧ kd = (if 0 ≤ wh then nI 1 else nI 4)) := by
  have hle := rTkP_le hin h
  obtain ⟨hp, h2⟩ := h
  have z1 : zi (M 50 1) = n := by rw [h1]; exact zi_nI (by omega)
  have z3 : zi (M 50 3) = i := by rw [h3]; exact zi_nI (by omega)
  have es : fSkp (M 1) (n - i) i = pl := by
    rw [hp]
    exact fSkp_cg _ _ (fun j _ h5 => zBy_blk (hT j (by omega)))
  have e2 : fAv M 50 2 = nI pl := by
    show nI (fSkp (M 1) (zi (M 50 1) - zi (M 50 3)) (zi (M 50 3))) = _
    rw [z1, z3, es]
  have e3 : fAv M 50 3 = nI (fTok (M 1) n pl).1 := by
    show nI (fTok (M 1) (zi (M 50 1)) (fSkp (M 1) (zi (M 50 1) - zi (M 50 3)) (zi (M 50 3)))).1 = _
    rw [z1, z3, es]
  have e4 : fAv M 50 4 = (fTok (M 1) n pl).2.1 := by
    show (fTok (M 1) (zi (M 50 1)) (fSkp (M 1) (zi (M 50 1) - zi (M 50 3)) (zi (M 50 3)))).2.1 = _
    rw [z1, z3, es]
  have e5 : fAv M 50 5 = (fTok (M 1) n pl).2.2 := by
    show (fTok (M 1) (zi (M 50 1)) (fSkp (M 1) (zi (M 50 1) - zi (M 50 3)) (zi (M 50 3)))).2.2 = _
    rw [z1, z3, es]
  rw [e2, e3, e4, e5]
  unfold fTok
  rcases h2 with ⟨a1, a2, a3, a4⟩ | ⟨a1, a2, a3, a4, a5⟩ | ⟨a1, a2, a3, a4, a5⟩ | ⟨a1, a2, a3, a4, a5, a6⟩
  · rw [if_pos a1]
    exact ⟨rfl, by rw [a2], Or.inl ⟨a3, rfl⟩, fun z => absurd (show nI 0 = nI 2 from z) (by decide)⟩
  · have b2 := (zBy_let (hT pl a1)).mpr a2
    have ew : fWrd (M 1) (n - pl) pl = nx := by
      rw [a3]
      exact fWrd_cg _ _ (fun j _ h5 => zBy_let (hT j (by omega)))
    rw [if_neg (by omega), if_pos b2, ew]
    refine ⟨rfl, rfl, Or.inr (Or.inr (Or.inr (Or.inr ⟨?_, rfl⟩))), fun _ => ⟨a1, a2, a4, a5⟩⟩
    rw [a5]
    split
    · exact Or.inl rfl
    · exact Or.inr rfl
  · have b2 : ¬ fLet (M 1 pl) := fun z => a2 ((zBy_let (hT pl a1)).mp z)
    have b3 := (zBy_dig (hT pl a1)).mpr a3
    obtain ⟨n1, n2⟩ := zNum (t := M 1) (r := r) (n - pl) pl (nI 0) (nI 0) (fun j _ h5 => hT j (by omega)) (Or.inl ⟨0, by decide, rfl, rfl⟩)
    rw [a4] at n1 n2
    rw [if_neg (by omega), if_neg b2, if_pos b3]
    exact ⟨rfl, congrArg nI n1, Or.inr (Or.inr (Or.inl ⟨a5, rfl, n2⟩)), fun z => absurd (show nI 3 = nI 2 from z) (by decide)⟩
  · have b2 : ¬ fLet (M 1 pl) := fun z => a2 ((zBy_let (hT pl a1)).mp z)
    have b3 : ¬ fDig (M 1 pl) := fun z => a3 ((zBy_dig (hT pl a1)).mp z)
    obtain ⟨s1, s2⟩ := zSig (t := M 1) (r := r) a1 hT
    rw [← a4] at s1 s2
    rw [if_neg (by omega), if_neg b2, if_neg b3]
    refine ⟨rfl, congrArg nI (s2.trans a6.symm), ?_, fun z => ?_⟩
    · rcases s1 with s | s | s | s | s
      · obtain ⟨w, w1, w2, w3, w4⟩ := s
        exact Or.inr (Or.inr (Or.inr (Or.inl ⟨by rw [a5, w3, if_pos (nI_pos' (by omega))], by rw [w3]; exact nI_nm1 (by omega), Or.inl ⟨w, w1, w2, w3, w4⟩⟩)))
      · exact Or.inr (Or.inr (Or.inr (Or.inl ⟨by rw [a5, s.1]; decide, by rw [s.1]; decide, Or.inr (Or.inl s)⟩)))
      · exact Or.inr (Or.inr (Or.inr (Or.inl ⟨by rw [a5, s.1]; decide, by rw [s.1]; decide, Or.inr (Or.inr (Or.inl s))⟩)))
      · exact Or.inr (Or.inr (Or.inr (Or.inl ⟨by rw [a5, s.1]; decide, by rw [s.1]; decide, Or.inr (Or.inr (Or.inr (Or.inl s)))⟩)))
      · exact Or.inr (Or.inl ⟨by rw [a5, s.1]; decide, s.2⟩)
    · exfalso
      have z' : (fSig (M 1) n pl).2 = nI 2 := z
      rcases s1 with ⟨w, w1, w2, _, w4⟩ | s | s | s | s
      · rw [w4] at z'
        have := (nI_eq (by omega) (by decide)).mp z'
        omega
      · rw [s.2] at z'; exact absurd z' (by decide)
      · rw [s.2] at z'; exact absurd z' (by decide)
      · rw [s.2] at z'; exact absurd z' (by decide)
      · rw [s.2] at z'; exact absurd z' (by decide)
/-- the same, inside an expression -/
theorem zTkE {M : zm_I} {r : Nat → Int32} {n i pl nx : Nat} {w0 kd wh : Int32} (h1 : M 50 1 = nI n) (hn : n ≤ 500) (h3 : M 50 3 = nI i) (hin : i ≤ n) (hT : zTp n (M 1) r) (h : rTkP r n i w0 pl nx kd wh) :
    fNx M 50 2 = nI pl ∧ fNx M 50 3 = nI nx ∧ zTe kd wh (fNx M 50 4) (fNx M 50 5) := by
  have hle := rTkP_le hin h
  obtain ⟨e2, e3, e4, e5⟩ := zTk h1 hn h3 hin hT h
  have hT2 : zTp n (fAv M 1) r := by rw [fAv_q M (by decide)]; exact hT
  have zb : zi (fAv M 50 2) = pl := by rw [e2]; exact zi_nI (by omega)
  have hnx5 : nx ≤ 500 := by
    by_cases q : pl < n
    · have := hle.2.2.1 q
      omega
    · obtain ⟨_, h2⟩ := h
      rcases h2 with ⟨a1, a2, _⟩ | ⟨a1, _⟩ | ⟨a1, _⟩ | ⟨a1, _⟩
      · omega
      · exact absurd a1 q
      · exact absurd a1 q
      · exact absurd a1 q
  have ze : zi (fAv M 50 3) = nx := by rw [e3]; exact zi_nI (by omega)
  have hN : fNx M = fRap (fAv M) pl nx := by
    unfold fNx
    rw [zb, ze]
  rw [hN]
  unfold fRap
  by_cases c : fAv M 50 4 = nI 2
  · rw [if_pos c]
    obtain ⟨c1, c2, c3, c4⟩ := e5 c
    have hb := hle.2.2.1 c1
    have w1 := fWiM_1 hT2 (show pl ≤ nx by omega) hb.2
    have w2 := fWiM_2 hT2 (show pl ≤ nx by omega) hb.2
    obtain ⟨x7, x8, x9, xn⟩ := w1
    obtain ⟨y10, y11, y12, y13, y14, y15, y16, y17, y0, y19, y20, yn⟩ := w2
    have u : ∀ {j k}, j < 21 → k < 21 → zWm r pl nx k → k ≠ j → ¬ zWm r pl nx j := fun hj hk hm hne z => hne (zWm_u hk hj hm z)
    unfold fRapW
    rcases c3 with ⟨k, k1, k2, k3, _⟩ | ⟨k2, k3⟩
    · have h18 : k ≠ 18 := fun e => by
        subst e
        have q : zWl.getD (zWp 18) 0 = r pl := k3.2 0 (by decide)
        rw [← q] at c2
        exact absurd c2 (by decide +kernel)
      have hkd : kd = nI 1 := by rw [c4, k2, if_pos (nI_pos' (by omega))]
      have nx1 : (k < 7 ∨ 9 < k) → fWi (fAv M) 1 pl nx = -1 := fun q => xn (u (by decide) k1 k3 (by omega)) (u (by decide) k1 k3 (by omega)) (u (by decide) k1 k3 (by omega))
      by_cases g1 : 7 ≤ k ∧ k ≤ 9
      · have ek : fWi (fAv M) 1 pl nx = nI (k - 7) := by
          rcases (show k = 7 ∨ k = 8 ∨ k = 9 by omega) with e | e | e <;> subst e
          · exact x7 k3
          · exact x8 k3
          · exact x9 k3
        rw [ek, if_neg (nI_nm1 (by omega)), nI_add, show 8 + (k - 7) = k + 1 by omega]
        exact ⟨(zs_nj (by decide)).trans e2, (zs_nj (by decide)).trans e3, Or.inr (Or.inr (Or.inr (Or.inr ⟨hkd, k, k1, k2, Or.inr (Or.inl ⟨g1.1, g1.2, zs_eq _ _ _ _⟩)⟩)))⟩
      · rw [nx1 (by omega), if_pos rfl]
        by_cases g2 : k = 0 ∨ 10 ≤ k
        · have en : fWi (fAv M) 2 pl nx = nI (if k = 0 then 8 else k - 10) := by
            rcases (show k = 0 ∨ k = 10 ∨ k = 11 ∨ k = 12 ∨ k = 13 ∨ k = 14 ∨ k = 15 ∨ k = 16 ∨ k = 17 ∨ k = 19 ∨ k = 20 by omega) with e | e | e | e | e | e | e | e | e | e | e <;> subst e
            · exact y0 k3
            · exact y10 k3
            · exact y11 k3
            · exact y12 k3
            · exact y13 k3
            · exact y14 k3
            · exact y15 k3
            · exact y16 k3
            · exact y17 k3
            · exact y19 k3
            · exact y20 k3
          rw [en, if_neg (nI_nm1 (by split <;> omega))]
          have q2 : zs (zs (fAv M) 50 4 (nI 4)) 50 5 (nI (if k = 0 then 8 else k - 10)) 50 2 = nI pl := by rw [zs_nj (by decide), zs_nj (by decide)]; exact e2
          have q3 : zs (zs (fAv M) 50 4 (nI 4)) 50 5 (nI (if k = 0 then 8 else k - 10)) 50 3 = nI nx := by rw [zs_nj (by decide), zs_nj (by decide)]; exact e3
          have q4 : zs (zs (fAv M) 50 4 (nI 4)) 50 5 (nI (if k = 0 then 8 else k - 10)) 50 4 = nI 4 := by rw [zs_nj (by decide), zs_eq]
          have q5 : zs (zs (fAv M) 50 4 (nI 4)) 50 5 (nI (if k = 0 then 8 else k - 10)) 50 5 = nI (if k = 0 then 8 else k - 10) := zs_eq _ _ _ _
          refine ⟨q2, q3, Or.inr (Or.inr (Or.inr (Or.inr ⟨hkd, k, k1, k2, ?_⟩)))⟩
          rw [q4, q5]
          by_cases g3 : k = 0
          · exact Or.inr (Or.inr (Or.inl ⟨g3, rfl, by rw [if_pos g3]⟩))
          · exact Or.inr (Or.inr (Or.inr ⟨by omega, rfl, by rw [if_neg g3]⟩))
        · have en : fWi (fAv M) 2 pl nx = -1 := yn (u (by decide) k1 k3 (by omega)) (u (by decide) k1 k3 (by omega)) (u (by decide) k1 k3 (by omega)) (u (by decide) k1 k3 (by omega)) (u (by decide) k1 k3 (by omega)) (u (by decide) k1 k3 (by omega)) (u (by decide) k1 k3 (by omega)) (u (by decide) k1 k3 (by omega)) (u (by decide) k1 k3 (by omega)) (u (by decide) k1 k3 (by omega)) (u (by decide) k1 k3 (by omega))
          rw [en, if_pos rfl]
          exact ⟨(zs_nj (by decide)).trans e2, (zs_nj (by decide)).trans e3, Or.inr (Or.inr (Or.inr (Or.inr ⟨hkd, k, k1, k2, Or.inl ⟨by omega, by omega, zs_eq _ _ _ _⟩⟩)))⟩
    · have ek : fWi (fAv M) 1 pl nx = -1 := xn (k3 7 (by decide)) (k3 8 (by decide)) (k3 9 (by decide))
      have en : fWi (fAv M) 2 pl nx = -1 := yn (k3 10 (by decide)) (k3 11 (by decide)) (k3 12 (by decide)) (k3 13 (by decide)) (k3 14 (by decide)) (k3 15 (by decide)) (k3 16 (by decide)) (k3 17 (by decide)) (k3 0 (by decide)) (k3 19 (by decide)) (k3 20 (by decide))
      have hkd : kd = nI 4 := by rw [c4, k2]; decide
      rw [ek, if_pos rfl, en, if_pos rfl]
      exact ⟨(zs_nj (by decide)).trans e2, (zs_nj (by decide)).trans e3, Or.inr (Or.inl ⟨hkd, zs_eq _ _ _ _⟩)⟩
  · rw [if_neg c]
    refine ⟨e2, e3, ?_⟩
    rcases e4 with h | h | h | h | h
    · exact Or.inl h
    · exact Or.inr (Or.inl h)
    · exact Or.inr (Or.inr (Or.inl h))
    · exact Or.inr (Or.inr (Or.inr (Or.inl h)))
    · exact absurd h.2 c
/-- a line's word -/
theorem zTkL {M : zm_I} {r : Nat → Int32} {n i pl nx : Nat} {w0 kd wh : Int32} (h1 : M 50 1 = nI n) (hn : n ≤ 500) (h3 : M 50 3 = nI i) (hin : i ≤ n) (hT : zTp n (M 1) r) (h : rTkP r n i w0 pl nx kd wh) :
    (∃ k, k ≤ 6 ∧ kd = nI 1 ∧ wh = nI k ∧ fLw (fAv M) pl nx = nI k) ∨ (fLw (fAv M) pl nx = -1 ∧ ¬ (kd = nI 1 ∧ ¬ nI 6 < wh)) := by
  have hle := rTkP_le hin h
  obtain ⟨e2, e3, e4, e5⟩ := zTk h1 hn h3 hin hT h
  have hT2 : zTp n (fAv M 1) r := by rw [fAv_q M (by decide)]; exact hT
  unfold fLw
  by_cases c : fAv M 50 4 = nI 2
  · rw [if_pos c]
    obtain ⟨c1, c2, c3, c4⟩ := e5 c
    have hb := hle.2.2.1 c1
    obtain ⟨x0, x1, x2, x3, x4, x5, x6, xn⟩ := fWiM_0 hT2 (show pl ≤ nx by omega) hb.2
    have u : ∀ {j k}, j < 21 → k < 21 → zWm r pl nx k → k ≠ j → ¬ zWm r pl nx j := fun hj hk hm hne z => hne (zWm_u hk hj hm z)
    rcases c3 with ⟨k, k1, k2, k3, _⟩ | ⟨k2, k3⟩
    · have hkd : kd = nI 1 := by rw [c4, k2, if_pos (nI_pos' (by omega))]
      by_cases g : k ≤ 6
      · left
        refine ⟨k, g, hkd, k2, ?_⟩
        rcases (show k = 0 ∨ k = 1 ∨ k = 2 ∨ k = 3 ∨ k = 4 ∨ k = 5 ∨ k = 6 by omega) with e | e | e | e | e | e | e <;> subst e
        · exact x0 k3
        · exact x1 k3
        · exact x2 k3
        · exact x3 k3
        · exact x4 k3
        · exact x5 k3
        · exact x6 k3
      · right
        refine ⟨xn (u (by decide) k1 k3 (by omega)) (u (by decide) k1 k3 (by omega)) (u (by decide) k1 k3 (by omega)) (u (by decide) k1 k3 (by omega)) (u (by decide) k1 k3 (by omega)) (u (by decide) k1 k3 (by omega)) (u (by decide) k1 k3 (by omega)), fun z => z.2 ?_⟩
        rw [k2]
        exact nI_lt (by omega) (by omega)
    · right
      refine ⟨xn (k3 0 (by decide)) (k3 1 (by decide)) (k3 2 (by decide)) (k3 3 (by decide)) (k3 4 (by decide)) (k3 5 (by decide)) (k3 6 (by decide)), fun z => ?_⟩
      have hkd : kd = nI 4 := by rw [c4, k2]; decide
      rw [hkd] at z
      exact absurd z.1 (by decide)
  · rw [if_neg c]
    right
    refine ⟨rfl, fun z => ?_⟩
    rcases e4 with h | h | h | h | h
    · rw [h.1] at z; exact absurd z.1 (by decide)
    · rw [h.1] at z; exact absurd z.1 (by decide)
    · rw [h.1] at z; exact absurd z.1 (by decide)
    · rw [h.1] at z; exact absurd z.1 (by decide)
    · exact c h.2
