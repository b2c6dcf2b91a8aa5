theorem fAv_be {gi : zm_I} (h : zTok gi) : fAv gi 50 2 = nI (zi (fAv gi 50 2)) ∧ fAv gi 50 3 = nI (zi (fAv gi 50 3)) ∧ zi (fAv gi 50 2) ≤ zi (fAv gi 50 3) ∧ zi (fAv gi 50 3) ≤ 500 := by
  have h1 := h.1.2
  have h2 := (fSkp_le (gi 1) (zi (gi 50 1) - zi (gi 50 3)) (zi (gi 50 3))).2
  have h3 := h.2.2
  have e1 : fSkp (gi 1) (zi (gi 50 1) - zi (gi 50 3)) (zi (gi 50 3)) ≤ zi (gi 50 1) := by omega
  have e2 := fTok_le (gi 1) e1
  have e4 := fTok_ge (gi 1) (zi (gi 50 1)) (fSkp (gi 1) (zi (gi 50 1) - zi (gi 50 3)) (zi (gi 50 3)))
  have e3 : fAv gi 50 3 = nI (fTok (gi 1) (zi (gi 50 1)) (fSkp (gi 1) (zi (gi 50 1) - zi (gi 50 3)) (zi (gi 50 3)))).1 := rfl
  have e5 : fAv gi 50 2 = nI (fSkp (gi 1) (zi (gi 50 1) - zi (gi 50 3)) (zi (gi 50 3))) := rfl
  rw [e3, e5, zi_nI (by omega), zi_nI (by omega)]
  exact ⟨rfl, rfl, e4, by omega⟩
def fNx (gi : zm_I) : zm_I := fRap (fAv gi) (zi (fAv gi 50 2)) (zi (fAv gi 50 3))
theorem fRap_q (M : zm_I) (b e : Nat) {a : Nat} (h : a ≠ 50) : fRap M b e a = M a := by
  unfold fRap
  split
  · unfold fRapW
    split
    · split
      · rw [zs_nq h]
      · rw [zs_nq h, zs_nq h]
    · rw [zs_nq h]
  · rfl
theorem fRap_j (M : zm_I) (b e : Nat) {j : Nat} (h4 : j ≠ 4) (h5 : j ≠ 5) : fRap M b e 50 j = M 50 j := by
  unfold fRap
  split
  · unfold fRapW
    split
    · split
      · rw [zs_nj h4]
      · rw [zs_nj h5, zs_nj h4]
    · rw [zs_nj h4]
  · rfl
theorem zTok_nx {gi : zm_I} (h : zTok gi) : zTok (fNx gi) := zTok_of (zTok_av h) (fRap_j _ _ _ (by decide) (by decide)) (fRap_j _ _ _ (by decide) (by decide))
theorem fNx_q (gi : zm_I) {a : Nat} (h : a ≠ 50) : fNx gi a = gi a := (fRap_q _ _ _ h).trans (fAv_q gi h)
theorem zRdr_nx {gi : zm_I} (h : zRdr gi) : zRdr (fNx gi) := zRdr_of h (fNx_q gi (by decide))
