/-- cells that the class's reader of expressions leaves alone -/
def zRq (a : Nat) : Prop := a ≠ 42 ∧ a ≠ 43 ∧ a ≠ 44 ∧ a ≠ 45 ∧ a ≠ 49
theorem fFail_q {a : Nat} (h : zRq a) (gi : zm_I) (w : Int32) : fFail gi w a = gi a := by
  unfold fFail
  rw [zs_nq h.1, zs_nq h.1]
theorem fCnK_q {a : Nat} (h : zRq a) (gi : zm_I) : (fCnK gi).2 a = gi a := by
  unfold fCnK
  split
  · exact zs_nq h.2.1
  · exact fFail_q h _ _
theorem fPw_q {a : Nat} (h : zRq a) (gi : zm_I) (k : Int32) : (fPw gi k).2 a = gi a := by
  unfold fPw
  split
  · show zs (zs gi 49 _ _) 42 3 _ a = _
    rw [zs_nq h.1, zs_nq h.2.2.2.2]
  · exact fFail_q h _ _
theorem fWr_q {a : Nat} (h : zRq a) (gi : zm_I) (k v : Int32) : (fWr gi k v).2 a = gi a := by
  unfold fWr
  split
  · show zs (zs (zs gi 44 _ _) 45 _ _) 42 5 _ a = _
    rw [zs_nq h.1, zs_nq h.2.2.2.1, zs_nq h.2.2.1]
  · exact fFail_q h _ _
theorem fWw_qq {a : Nat} (h : zRq a) (gi : zm_I) (rk : Int32) : fWw gi rk a = gi a := fWw_q gi rk h.1 h.2.2.1 h.2.2.2.1
theorem fCl_q {a : Nat} (h : zRq a) (gi : zm_I) : fCl gi a = gi a := by
  unfold fCl fClM
  split
  · rw [zs_nq h.1, fWw_qq h]
  · rw [zs_nq h.1, zs_nq h.1, fWw_qq h]
theorem fOb_q {a : Nat} (h : zRq a) (gi : zm_I) : (fOb gi).2 a = gi a := by
  unfold fOb
  split
  · rw [fPw_q h, zs_nq h.1]
  · exact fFail_q h _ _
theorem fAnd_q {a : Nat} {p : Bool × zm_I} {f : zm_I → Bool × zm_I} {gi : zm_I} (h1 : p.2 a = gi a) (hf : ∀ M, (f M).2 a = M a) : (fAnd p f).2 a = gi a := by
  unfold fAnd
  split
  · exact (hf _).trans h1
  · exact h1
theorem fRn_q {a : Nat} (h : zRq a) (gi : zm_I) (ln : Int32) : (fRn gi ln).2 a = gi a := fAnd_q (fCnK_q h gi) (fun M => by
  unfold fRnB
  split
  · exact fFail_q h _ _
  · exact fWr_q h _ _ _)
theorem fRj_q {a : Nat} (h : zRq a) (gi : zm_I) (k : Int32) : (fRj gi k).2 a = gi a := by
  unfold fRj
  split
  · unfold fRjM
    split
    · exact (fFail_q h _ _).trans (fWw_qq h _ _)
    · exact (fAnd_q (fCnK_q h _) (fun M => fPw_q h M _)).trans (fWw_qq h _ _)
  · exact fFail_q h _ _
theorem fRp_q {a : Nat} (h : zRq a) (gi : zm_I) (k ln : Int32) : (fRp gi k ln).2 a = gi a := by
  unfold fRp
  split
  · split
    · exact fAnd_q (fCnK_q h gi) (fun M => fWr_q h M _ _)
    · exact fFail_q h _ _
  · split
    · exact fRn_q h gi ln
    · split
      · exact fOb_q h gi
      · split
        · exact fAnd_q (fCnK_q h gi) (fun M => fPw_q h M _)
        · split
          · split
            · exact fAnd_q (fCnK_q h gi) (fun M => fPw_q h M _)
            · exact fFail_q h _ _
          · exact fFail_q h _ _
