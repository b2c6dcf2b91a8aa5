/-! ===== the readers: two values are joined ===== -/
def zKL : List Nat := [7, 10, 22, 8, 9, 11, 12, 13, 14, 15, 16, 17, 18, 19, 20, 21]
def zTL : List Nat := [8, 9, 11, 12, 13, 14, 15, 16, 17, 18, 19, 20, 21]
theorem zTL_of {k : Nat} (h : zTwo k) : k ∈ zTL := by
  rcases h with rfl | rfl | rfl | rfl | rfl | rfl | rfl | rfl | rfl | rfl | rfl | rfl | rfl <;> decide
theorem zKL_of {k : Nat} (h : zKk k) : k ∈ zKL := by
  rcases h with rfl | rfl | rfl | h
  · decide
  · decide
  · decide
  · rcases h with rfl | rfl | rfl | rfl | rfl | rfl | rfl | rfl | rfl | rfl | rfl | rfl | rfl <;> decide
theorem zfA : ∀ k ∈ zTL, ∀ p ∈ zKL, ¬ (11 ≤ k ∧ k ≤ 16) → fStay (nI p) (fRank (nI k)) → ¬ fRank (nI p) = fRank (nI k) := by decide +kernel
theorem zfB : ∀ k ∈ zTL, ∀ p ∈ zKL, (11 ≤ k ∧ k ≤ 16) → ((fStay (nI p) (fRank (nI k)) ↔ p < 17) ∧ (fRank (nI p) = fRank (nI k) ↔ (11 ≤ p ∧ p < 17))) := by decide +kernel
theorem zfC : ∀ k ∈ zTL, ∀ p ∈ zKL, 17 ≤ k → ¬ fStay (nI p) (fRank (nI k)) → 17 ≤ p := by decide +kernel
theorem zfD : ∀ k ∈ zTL, ∀ p ∈ zKL, ¬ (11 ≤ k ∧ k ≤ 16 ∧ 11 ≤ p ∧ p < 17) → (fStay (nI p) (fRank (nI k)) ↔ rWt (nI (zKo p)) < rWt (nI (rKd k))) := by decide +kernel
theorem zf2 : ∀ k ∈ zTL, fTwo (nI k) ∧ rKd k < 17 ∧ (rKd k < 7 ↔ (11 ≤ k ∧ k ≤ 16)) ∧ (rKd k < 12 ↔ 11 ≤ k) ∧ (13 < rKd k ↔ k ≤ 10) ∧ k ≠ 7 := by decide +kernel
theorem fWwS_q (M : zm_I) (m : Nat) {a : Nat} (h2 : a ≠ 42) (h4 : a ≠ 44) (h5 : a ≠ 45) : fWwS M m a = M a := by
  unfold fWwS fWr
  split
  · show zs (zs (zs (zs M 42 3 (nI m)) 44 _ _) 45 _ _) 42 5 _ a = _
    rw [zs_nq h2, zs_nq h5, zs_nq h4, zs_nq h2]
  · show zs (zs (zs M 42 3 (nI m)) 42 7 _) 42 8 _ a = _
    rw [zs_nq h2, zs_nq h2, zs_nq h2]
theorem fWwL_q (rk : Int32) {a : Nat} (h2 : a ≠ 42) (h4 : a ≠ 44) (h5 : a ≠ 45) : ∀ (m : Nat) (M : zm_I), fWwL rk m M a = M a
  | 0, _ => rfl
  | m + 1, M => by
    show (if fStay (M 49 m) rk then M else fWwL rk m (fWwS M m)) a = M a
    split
    · rfl
    · rw [fWwL_q rk h2 h4 h5 m, fWwS_q M m h2 h4 h5]
theorem fWw_q (M : zm_I) (rk : Int32) {a : Nat} (h2 : a ≠ 42) (h4 : a ≠ 44) (h5 : a ≠ 45) : fWw M rk a = M a := fWwL_q rk h2 h4 h5 _ M
theorem zs_cm (M : zm_I) (q j a i : Nat) (v w : Int32) (h : q ≠ a) : zs (zs M q j v) a i w = zs (zs M a i w) q j v := funext fun b => funext fun k => by
  simp only [zs_at]
  by_cases c1 : b = a ∧ k = i
  · rw [if_pos c1, if_neg (fun c => h (c.1.symm.trans c1.1)), if_pos c1]
  · rw [if_neg c1, if_neg c1]
theorem fWwS_43 (M : zm_I) (m : Nat) (v : Int32) : fWwS (zs M 43 8 v) m = zs (fWwS M m) 43 8 v := by
  have e1 : zs (zs M 43 8 v) 42 3 (nI m) = zs (zs M 42 3 (nI m)) 43 8 v := zs_cm _ _ _ _ _ _ _ (by decide)
  unfold fWwS fWr fFail
  rw [e1]
  generalize zs M 42 3 (nI m) = Z
  rw [zs_nq (by decide), zs_nq (by decide), zs_nq (by decide)]
  split
  · show zs (zs (zs (zs Z 43 8 v) 44 _ _) 45 _ _) 42 5 _ = zs (zs (zs (zs Z 44 _ _) 45 _ _) 42 5 _) 43 8 v
    rw [zs_cm Z 43 8 44 _ v _ (by decide), zs_cm _ 43 8 45 _ v _ (by decide), zs_cm _ 43 8 42 _ v _ (by decide)]
  · show zs (zs (zs Z 43 8 v) 42 7 _) 42 8 _ = zs (zs (zs Z 42 7 _) 42 8 _) 43 8 v
    rw [zs_cm Z 43 8 42 _ v _ (by decide), zs_cm _ 43 8 42 _ v _ (by decide)]
theorem fWwL_43 (rk v : Int32) : ∀ (m : Nat) (M : zm_I), fWwL rk m (zs M 43 8 v) = zs (fWwL rk m M) 43 8 v
  | 0, _ => rfl
  | m + 1, M => by
    show (if fStay (zs M 43 8 v 49 m) rk then zs M 43 8 v else fWwL rk m (fWwS (zs M 43 8 v) m)) = zs (if fStay (M 49 m) rk then M else fWwL rk m (fWwS M m)) 43 8 v
    rw [zs_nq (by decide), fWwS_43, fWwL_43 rk v m]
    split <;> rfl
theorem fWw_43 (M : zm_I) (rk v : Int32) : fWw (zs M 43 8 v) rk = zs (fWw M rk) 43 8 v := fWwL_43 rk v _ M
theorem zWM_ap {M : zm_I} : ∀ A B : List (Nat × Nat), zWM M (A ++ B) → zWM M B
  | [], _, h => h
  | _ :: A, B, h => zWM_ap A B h.2
theorem zWw_top (rk : Int32) : ∀ (W : List (Nat × Nat)) (N : zm_I), N 42 3 = nI W.length → zWM N W → ∃ Wp W', W = Wp ++ W' ∧ (∀ p ∈ Wp, ¬ fStay (nI p.1) rk) ∧ (W' = [] ∨ ∃ p W2, W' = p :: W2 ∧ fStay (nI p.1) rk) ∧ fWwL rk W.length N 42 3 = nI W'.length
  | [], N, h3, _ => ⟨[], [], rfl, fun p hp => absurd hp (by simp), Or.inl rfl, h3⟩
  | p :: W, N, h3, hW => by
    have e : fWwL rk (p :: W).length N = if fStay (nI p.1) rk then N else fWwL rk W.length (fWwS N W.length) := by
      show (if fStay (N 49 W.length) rk then N else fWwL rk W.length (fWwS N W.length)) = _
      rw [hW.1]
    by_cases c : fStay (nI p.1) rk
    · exact ⟨[], p :: W, rfl, fun p hp => absurd hp (by simp), Or.inr ⟨p, W, rfl, c⟩, by rw [e, if_pos c]; exact h3⟩
    · obtain ⟨Wp, W', a1, a2, a3, a4⟩ := zWw_top rk W (fWwS N W.length) (fWwS_3 _ _) (zWM_cg W (fun j _ => by rw [fWwS_q N _ (by decide) (by decide) (by decide)]) hW.2)
      refine ⟨p :: Wp, W', by rw [a1]; rfl, fun q hq => ?_, a3, by rw [e, if_neg c]; exact a4⟩
      rcases List.mem_cons.mp hq with h | h
      · rw [h]; exact c
      · exact a2 q h
/-- how the class joins -/
theorem zRjE {N X : zm_I} {l s0 wr kn kb k : Nat} {W : List (Nat × Nat)} {S : List Nat} {dn : Nat → Nat} (hP : zPS N X l s0 wr kn kb W S dn) (hk : zTwo k) : (11 ≤ k ∧ k ≤ 16 ∧ zHc W = true → fRj N (nI k) = (false, fFail (fWw N (fRank (nI k))) (nI 1))) ∧ (¬ (11 ≤ k ∧ k ≤ 16 ∧ zHc W = true) → fRj N (nI k) = fAnd (fCnK (fWw N (fRank (nI k)))) (fun M => fPw M (nI k))) := by
  have hl := (zPS_len hP).1
  have hkl := zTL_of hk
  have e0 : fRj N (nI k) = fRjM (fWw N (fRank (nI k))) (nI k) := if_pos (zf2 k hkl).1
  obtain ⟨Wp, W', a1, a2, a3, a4⟩ := zWw_top (fRank (nI k)) W N hP.1.1 hP.1.2.2.1
  have eW : fWwL (fRank (nI k)) W.length N = fWw N (fRank (nI k)) := by
    unfold fWw
    rw [hP.1.1, zi_nI (by omega)]
  rw [eW] at a4
  have hM' : zWM (fWw N (fRank (nI k))) W' := zWM_cg W' (fun j _ => by rw [fWw_q N _ (by decide) (by decide) (by decide)]) (zWM_ap Wp W' (by rw [← a1]; exact hP.1.2.2.1))
  have hlen : W.length = Wp.length + W'.length := by rw [a1, List.length_append]
  have hin : ∀ p ∈ W, p.1 ∈ zKL := fun p hp => zKL_of (hP.1.2.2.2.2 p hp)
  have hcond : (¬ fWw N (fRank (nI k)) 42 3 ≤ 0 ∧ fRank (fWw N (fRank (nI k)) 49 (zi (fWw N (fRank (nI k)) 42 3) - 1)) = fRank (nI k)) ↔ (11 ≤ k ∧ k ≤ 16 ∧ zHc W = true) := by
    rcases a3 with h | ⟨p, W2, h, hs⟩
    · rw [a4, h]
      constructor
      · rintro ⟨q, _⟩
        exact absurd (by show nI 0 ≤ 0; decide) q
      · rintro ⟨k1, k2, q⟩
        rw [a1, zHc_ap Wp W' (fun p hp => ?_), h] at q
        · exact absurd q Bool.false_ne_true
        · have := (zfB k hkl p.1 (hin p (by rw [a1]; exact List.mem_append_left _ hp)) ⟨k1, k2⟩).1
          exact Nat.le_of_not_lt (fun z => a2 p hp (this.mpr z))
    · have hpin : p.1 ∈ zKL := hin p (by rw [a1, h]; exact List.mem_append_right _ List.mem_cons_self)
      have hlw : W'.length = W2.length + 1 := by rw [h]; rfl
      have e1 : ¬ fWw N (fRank (nI k)) 42 3 ≤ 0 := by
        rw [a4, hlw]
        exact zww_pos (by omega)
      have e2 : fWw N (fRank (nI k)) 49 (zi (fWw N (fRank (nI k)) 42 3) - 1) = nI p.1 := by
        rw [a4, hlw, zi_nI (by omega), Nat.add_sub_cancel]
        rw [h] at hM'
        exact hM'.1
      rw [e2]
      by_cases ck : 11 ≤ k ∧ k ≤ 16
      · have fb := zfB k hkl p.1 hpin ck
        have ehc : zHc W = zHc W' := by
          rw [a1]
          refine zHc_ap Wp W' (fun q hq => ?_)
          have := (zfB k hkl q.1 (hin q (by rw [a1]; exact List.mem_append_left _ hq)) ck).1
          exact Nat.le_of_not_lt (fun z => a2 q hq (this.mpr z))
        have hp17 := fb.1.mp hs
        have ehc2 : zHc W' = decide (11 ≤ p.1) := by
          rw [h]
          exact if_neg (by omega)
        rw [ehc, ehc2, decide_eq_true_iff]
        constructor
        · rintro ⟨_, q⟩
          exact ⟨ck.1, ck.2, (fb.2.mp q).1⟩
        · rintro ⟨_, _, q⟩
          exact ⟨e1, fb.2.mpr ⟨q, hp17⟩⟩
      · constructor
        · rintro ⟨_, q⟩
          exact absurd q (zfA k hkl p.1 hpin ck hs)
        · rintro ⟨q1, q2, _⟩
          exact absurd ⟨q1, q2⟩ ck
  constructor
  · intro q
    rw [e0]
    exact if_pos (hcond.mpr q)
  · intro q
    rw [e0]
    exact if_neg (fun z => q (hcond.mp z))
theorem zSt_of {k : Nat} (hk : zTwo k) : ∀ W : List (Nat × Nat), (∀ p ∈ W, zKk p.1) → ¬ (11 ≤ k ∧ k ≤ 16 ∧ zHc W = true) → zSt (fRank (nI k)) (rWt (nI (rKd k))) W
  | [], _, _ => trivial
  | p :: W, h, hc => by
    have hkl := zTL_of hk
    have hp := zKL_of (h p List.mem_cons_self)
    refine ⟨zfD k hkl p.1 hp (fun q => hc ⟨q.1, q.2.1, ?_⟩), fun hs => zSt_of hk W (fun q hq => h q (List.mem_cons_of_mem _ hq)) (fun q => hc ⟨q.1, q.2.1, ?_⟩)⟩
    · exact zHc_cm (k := p.1) (b := p.2) q.2.2.1 q.2.2.2
    · have h17 := (zfB k hkl p.1 hp ⟨q.1, q.2.1⟩).1
      exact (zHc_hi (k := p.1) (b := p.2) (Nat.le_of_not_lt (fun z => hs (h17.mpr z)))).trans q.2.2
