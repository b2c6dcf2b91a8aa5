/-! the reader leaves the tokens -/
theorem fFail_50 (gi : zm_I) (w : Int32) : fFail gi w 50 = gi 50 := by unfold fFail; rw [zs_nq (by decide), zs_nq (by decide)]
theorem fCnK_50 (gi : zm_I) : (fCnK gi).2 50 = gi 50 := by
  unfold fCnK
  split
  · show zs gi 43 8 (gi 43 8 + nI 1) 50 = gi 50
    rw [zs_nq (by decide)]
  · exact fFail_50 gi (nI 2)
theorem fPw_50 (gi : zm_I) (k : Int32) : (fPw gi k).2 50 = gi 50 := by
  unfold fPw
  split
  · show zs (zs gi 49 (zi (gi 42 3)) k) 42 3 (nI (zi (gi 42 3) + 1)) 50 = gi 50
    rw [zs_nq (by decide), zs_nq (by decide)]
  · exact fFail_50 gi (nI 2)
theorem fWr_50 (gi : zm_I) (k v : Int32) : (fWr gi k v).2 50 = gi 50 := by
  unfold fWr
  split
  · show zs (zs (zs gi 44 (zi (gi 42 5)) k) 45 (zi (gi 42 5)) v) 42 5 (nI (zi (gi 42 5) + 1)) 50 = gi 50
    rw [zs_nq (by decide), zs_nq (by decide), zs_nq (by decide)]
  · exact fFail_50 gi (nI 2)
theorem fWwL_50 (rank : Int32) : ∀ (m : Nat) (gi : zm_I), fWwL rank m gi 50 = gi 50
  | 0, gi => rfl
  | m + 1, gi => by
    show (if fStay (gi 49 m) rank then gi else fWwL rank m (fWwS gi m)) 50 = gi 50
    split
    · rfl
    · rw [fWwL_50 rank m (fWwS gi m)]
      unfold fWwS
      rw [fWr_50, zs_nq (by decide)]
theorem fWw_50 (gi : zm_I) (rank : Int32) : fWw gi rank 50 = gi 50 := fWwL_50 rank _ gi
theorem fCl_50 (gi : zm_I) : fCl gi 50 = gi 50 := by
  have h : fClM gi 50 = gi 50 := by unfold fClM; rw [zs_nq (by decide), fWw_50]
  unfold fCl
  split
  · exact h
  · rw [zs_nq (by decide)]; exact h
theorem fOb_50 (gi : zm_I) : (fOb gi).2 50 = gi 50 := by
  unfold fOb
  split
  · rw [fPw_50, zs_nq (by decide)]
  · exact fFail_50 gi (nI 2)
theorem fAnd_50 {p : Bool × zm_I} {f : zm_I → Bool × zm_I} {gi : zm_I} (h : p.2 50 = gi 50) (hf : (f p.2).2 50 = p.2 50) : (fAnd p f).2 50 = gi 50 := by
  unfold fAnd
  split
  · rw [hf, h]
  · exact h
theorem fRn_50 (gi : zm_I) (line : Int32) : (fRn gi line).2 50 = gi 50 := by
  refine fAnd_50 (fCnK_50 gi) ?_
  unfold fRnB
  split
  · exact fFail_50 _ (nI 4)
  · exact fWr_50 _ _ _
theorem fRj_50 (gi : zm_I) (kind : Int32) : (fRj gi kind).2 50 = gi 50 := by
  unfold fRj
  split
  · unfold fRjM
    split
    · exact (fFail_50 _ (nI 1)).trans (fWw_50 _ _)
    · exact fAnd_50 ((fCnK_50 _).trans (fWw_50 _ _)) (fPw_50 _ _)
  · exact fFail_50 gi (nI 1)
theorem fRp_50 (gi : zm_I) (kind line : Int32) : (fRp gi kind line).2 50 = gi 50 := by
  unfold fRp
  split
  · split
    · exact fAnd_50 (fCnK_50 gi) (fWr_50 _ _ _)
    · exact fFail_50 gi (nI 2)
  · split
    · exact fRn_50 gi line
    · split
      · exact fOb_50 gi
      · split
        · exact fAnd_50 (fCnK_50 gi) (fPw_50 _ _)
        · split
          · split
            · exact fAnd_50 (fCnK_50 gi) (fPw_50 _ _)
            · exact fFail_50 gi (nI 1)
          · exact fFail_50 gi (nI 1)
theorem zTok_50 {gi gi' : zm_I} (h : zTok gi) (e : gi' 50 = gi 50) : zTok gi' := zTok_of h (congrFun e 1) (congrFun e 3)
theorem fTok_ge (t : Nat → Int32) (n i : Nat) : i ≤ (fTok t n i).1 := by
  unfold fTok
  split
  · exact Nat.le_refl _
  · split
    · exact (fWrd_le t (n - i) i).1
    · split
      · exact (fNum_le t (n - i) i (nI 0)).1
      · show i ≤ (fSig t n i).1
        unfold fSig
        split
        · exact Nat.le_succ i
        · split
          · show i ≤ i + 2; omega
          · split
            · show i ≤ i + 2; omega
            · exact Nat.le_succ i
