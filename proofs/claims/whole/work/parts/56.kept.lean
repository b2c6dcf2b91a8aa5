theorem fRs_ok {gi : zm_I} (line : Int32) (hK : zTok gi) (hR : zRdr gi) : zTok (fRs gi line).2 ∧ zRdr (fRs gi line).2 := by
  have k := zTok_av hK
  have r : zRdr (fAv gi) := zRdr_of hR (fAv_q gi (by decide))
  unfold fRs
  generalize fAv gi = M at k r ⊢
  unfold fRsM
  split
  · split
    · unfold fRsE
      have k2 : zTok (zs M 43 (if line = 0 then 5 else 6) (M 50 5)) := zTok_50 k (by rw [zs_nq (by decide)])
      have r2 : zRdr (zs M 43 (if line = 0 then 5 else 6) (M 50 5)) := zRdr_of r (by rw [zs_nq (by decide)])
      generalize zs M 43 (if line = 0 then 5 else 6) (M 50 5) = Y at k2 r2 ⊢
      have r3 : zRdr (fAv Y) := zRdr_of r2 (fAv_q Y (by decide))
      split
      · exact ⟨zTok_av k2, r3⟩
      · exact ⟨zTok_50 (zTok_av k2) (fFail_50 (fAv Y) (nI 1)), zRdr_fail _ r3⟩
    · exact ⟨zTok_50 k (fFail_50 M (nI 2)), zRdr_fail _ r⟩
  · exact ⟨zTok_50 k (fFail_50 M (nI 1)), zRdr_fail _ r⟩
theorem fExp_ok (l : Nat) : ∀ (m : Nat) (p : Bool) (M : zm_I), zTok M → zRdr M → zTok (fExp l m p M).2 ∧ zRdr (fExp l m p M).2
  | 0, p, M, k, r => ⟨zTok_50 k (fFail_50 M (nI 1)), zRdr_fail _ r⟩
  | m + 1, p, M, k, r => by
    have kx := zTok_nx k
    have rx := zRdr_nx r
    unfold fExp
    generalize fNx M = X at kx rx ⊢
    split
    · have k2 := zTok_50 kx (fRp_50 X (X 50 4) (nI l))
      have r2 := zRdr_rp (X 50 4) (nI l) rx
      split
      · exact fExp_ok l m _ _ k2 r2
      · exact ⟨k2, r2⟩
    · split
      · exact ⟨zTok_50 kx (by show zs (fWw X (nI 0)) 47 l (fWw X (nI 0) 42 5) 50 = _; rw [zs_nq (by decide), fWw_50]), zRdr_of (zRdr_ww (nI 0) rx) (by show zs (fWw X (nI 0)) 47 l (fWw X (nI 0) 42 5) 42 = _; rw [zs_nq (by decide)])⟩
      · split
        · exact fExp_ok l m _ _ (zTok_50 kx (fCl_50 X)) (zRdr_cl rx)
        · have k2 := zTok_50 kx (fRj_50 X (X 50 4))
          have r2 := zRdr_rj (X 50 4) rx
          split
          · exact fExp_ok l m _ _ k2 r2
          · exact ⟨k2, r2⟩
