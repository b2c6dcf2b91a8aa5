theorem fEx_ok {gi : zm_I} (l : Nat) (hK : zTok gi) (hR : zRdr gi) : zTok (fEx gi l).2 ∧ zRdr (fEx gi l).2 :=
  fExp_ok l 501 true _ (zTok_50 hK (by rw [zs_nq (by decide), zs_nq (by decide), zs_nq (by decide)])) (zRdr_of (zRdr_op (nI 0) (zRdr_set (m := 0) (by decide) hR)) (by rw [zs_nq (by decide)]))
theorem fRl_ok {gi : zm_I} (b e : Nat) (hK : zTok gi) (hR : zRdr gi) : zTok (fRl gi b e).2 ∧ zRdr (fRl gi b e).2 := by
  unfold fRl
  split
  · exact ⟨zTok_50 hK (fFail_50 gi (nI 1)), zRdr_fail _ hR⟩
  · unfold fRlL
    split
    · exact ⟨zTok_50 hK (fFail_50 gi (nI 3)), zRdr_fail _ hR⟩
    · split
      · exact fRs_ok _ (zTok_rlM _ hK) (zRdr_rlM _ hR)
      · exact fEx_ok _ (zTok_rlM _ hK) (zRdr_rlM _ hR)
def fTl (M : zm_I) : Bool × zm_I := fRl (fAv M) (zi (fAv M 50 2)) (zi (fAv M 50 3))
def fTxL : Nat → zm_I → Bool × zm_I
  | 0, M => (false, fFail M (nI 1))
  | m + 1, M => if fAv M 50 4 = 0 then (true, fAv M) else if (fTl M).1 = true then fTxL m (fTl M).2 else (false, (fTl M).2)
