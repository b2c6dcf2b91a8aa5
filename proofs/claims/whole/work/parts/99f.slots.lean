/-! ===== the readers: slots that the class's reader of expressions leaves alone ===== -/
theorem zs_no {M : zm_I} {q s a j : Nat} {v : Int32} (h : a ≠ q ∨ j ≠ s) : zs M q s v a j = M a j := by
  rw [zs_at, if_neg (by omega)]
def zSl (a j : Nat) : Prop := (a ≠ 42 ∨ j = 6) ∧ (a ≠ 43 ∨ j ≠ 8) ∧ a ≠ 44 ∧ a ≠ 45 ∧ a ≠ 49
theorem zSl_n {a j : Nat} (h : zSl a j) (k : Nat) (hk : k ≠ 6) : a ≠ 42 ∨ j ≠ k := by
  have := h.1
  omega
theorem fFail_s {a j : Nat} (h : zSl a j) (gi : zm_I) (w : Int32) : fFail gi w a j = gi a j := by
  unfold fFail
  rw [zs_no (zSl_n h 8 (by decide)), zs_no (zSl_n h 7 (by decide))]
theorem fCnK_s {a j : Nat} (h : zSl a j) (gi : zm_I) : (fCnK gi).2 a j = gi a j := by
  unfold fCnK
  split
  · exact zs_no h.2.1
  · exact fFail_s h _ _
theorem fPw_s {a j : Nat} (h : zSl a j) (gi : zm_I) (k : Int32) : (fPw gi k).2 a j = gi a j := by
  unfold fPw
  split
  · show zs (zs gi 49 _ _) 42 3 _ a j = _
    rw [zs_no (zSl_n h 3 (by decide)), zs_no (Or.inl h.2.2.2.2)]
  · exact fFail_s h _ _
theorem fWr_s {a j : Nat} (h : zSl a j) (gi : zm_I) (k v : Int32) : (fWr gi k v).2 a j = gi a j := by
  unfold fWr
  split
  · show zs (zs (zs gi 44 _ _) 45 _ _) 42 5 _ a j = _
    rw [zs_no (zSl_n h 5 (by decide)), zs_no (Or.inl h.2.2.2.1), zs_no (Or.inl h.2.2.1)]
  · exact fFail_s h _ _
theorem fWwS_s {a j : Nat} (h : zSl a j) (M : zm_I) (m : Nat) : fWwS M m a j = M a j := by
  unfold fWwS
  rw [fWr_s h, zs_no (zSl_n h 3 (by decide))]
theorem fWwL_s {a j : Nat} (h : zSl a j) (rk : Int32) : ∀ (m : Nat) (M : zm_I), fWwL rk m M a j = M a j
  | 0, _ => rfl
  | m + 1, M => by
    show (if fStay (M 49 m) rk then M else fWwL rk m (fWwS M m)) a j = M a j
    split
    · rfl
    · rw [fWwL_s h rk m, fWwS_s h]
theorem fWw_s {a j : Nat} (h : zSl a j) (gi : zm_I) (rk : Int32) : fWw gi rk a j = gi a j := fWwL_s h rk _ gi
theorem fCl_s {a j : Nat} (h : zSl a j) (gi : zm_I) : fCl gi a j = gi a j := by
  unfold fCl fClM
  split
  · rw [zs_no (zSl_n h 4 (by decide)), fWw_s h]
  · rw [zs_no (zSl_n h 3 (by decide)), zs_no (zSl_n h 4 (by decide)), fWw_s h]
theorem fOb_s {a j : Nat} (h : zSl a j) (gi : zm_I) : (fOb gi).2 a j = gi a j := by
  unfold fOb
  split
  · rw [fPw_s h, zs_no (zSl_n h 4 (by decide))]
  · exact fFail_s h _ _
theorem fAnd_s {a j : Nat} {p : Bool × zm_I} {f : zm_I → Bool × zm_I} {gi : zm_I} (h1 : p.2 a j = gi a j) (hf : ∀ M, (f M).2 a j = M a j) : (fAnd p f).2 a j = gi a j := by
  unfold fAnd
  split
  · exact (hf _).trans h1
  · exact h1
theorem fRn_s {a j : Nat} (h : zSl a j) (gi : zm_I) (ln : Int32) : (fRn gi ln).2 a j = gi a j := fAnd_s (fCnK_s h gi) (fun M => by
  unfold fRnB
  split
  · exact fFail_s h _ _
  · exact fWr_s h _ _ _)
theorem fRj_s {a j : Nat} (h : zSl a j) (gi : zm_I) (k : Int32) : (fRj gi k).2 a j = gi a j := by
  unfold fRj
  split
  · unfold fRjM
    split
    · exact (fFail_s h _ _).trans (fWw_s h _ _)
    · exact (fAnd_s (fCnK_s h _) (fun M => fPw_s h M _)).trans (fWw_s h _ _)
  · exact fFail_s h _ _
theorem fRp_s {a j : Nat} (h : zSl a j) (gi : zm_I) (k ln : Int32) : (fRp gi k ln).2 a j = gi a j := by
  unfold fRp
  split
  · split
    · exact fAnd_s (fCnK_s h gi) (fun M => fWr_s h M _ _)
    · exact fFail_s h _ _
  · split
    · exact fRn_s h gi ln
    · split
      · exact fOb_s h gi
      · split
        · exact fAnd_s (fCnK_s h gi) (fun M => fPw_s h M _)
        · split
          · split
            · exact fAnd_s (fCnK_s h gi) (fun M => fPw_s h M _)
            · exact fFail_s h _ _
          · exact fFail_s h _ _
theorem fExp_s {l a j : Nat} (h : zSl a j) (h5 : a ≠ 50) (h7 : a ≠ 47 ∨ j ≠ l) : ∀ (m : Nat) (p : Bool) (M : zm_I), (fExp l m p M).2 a j = M a j
  | 0, p, M => fFail_s h _ _
  | m + 1, p, M => by
    have e : fNx M a j = M a j := by rw [fNx_q M h5]
    unfold fExp
    generalize fNx M = X at e ⊢
    split
    · split
      · exact (fExp_s h h5 h7 m _ _).trans ((fRp_s h X _ _).trans e)
      · exact (fRp_s h X _ _).trans e
    · split
      · show zs (fWw X (nI 0)) 47 l _ a j = _
        rw [zs_no h7, fWw_s h]; exact e
      · split
        · exact (fExp_s h h5 h7 m _ _).trans ((fCl_s h X).trans e)
        · split
          · exact (fExp_s h h5 h7 m _ _).trans ((fRj_s h X _).trans e)
          · exact (fRj_s h X _).trans e
theorem fEx_s {l a j : Nat} (h : zSl a j) (h5 : a ≠ 50) (h7 : a ≠ 47 ∨ j ≠ l) (h6 : a ≠ 46 ∨ j ≠ l) (M : zm_I) : (fEx M l).2 a j = M a j := by
  unfold fEx
  rw [fExp_s h h5 h7, zs_no h6, zs_no (zSl_n h 4 (by decide)), zs_no (zSl_n h 3 (by decide))]
/-- cells that reading a text leaves alone -/
theorem fRl_q {a : Nat} (h : a < 42 ∨ 50 < a) (M : zm_I) (b e : Nat) : (fRl M b e).2 a = M a := by
  have h42 : a ≠ 42 := by omega
  have h43 : a ≠ 43 := by omega
  have h50 : a ≠ 50 := by omega
  have hs : ∀ j, zSl a j := fun j => by unfold zSl; omega
  have ff : ∀ (N : zm_I) (w : Int32), fFail N w a = N a := fun N w => funext fun j => fFail_s (hs j) N w
  have e3 : ∀ Y : zm_I, Y a = M a → (fRsE Y).2 a = M a := fun Y hY => by
    unfold fRsE
    split
    · exact (fAv_q Y h50).trans hY
    · exact (ff _ _).trans ((fAv_q Y h50).trans hY)
  have hM : ∀ l, fRlM M l a = M a := fun l => by unfold fRlM; rw [zs_nq h43, zs_nq h42]
  unfold fRl
  split
  · exact ff _ _
  · unfold fRlL
    split
    · exact ff _ _
    · split
      · unfold fRs
        have e1 : fAv (fRlM M (zi (fLw M b e))) a = M a := (fAv_q _ h50).trans (hM _)
        generalize fAv (fRlM M (zi (fLw M b e))) = N at e1 ⊢
        unfold fRsM
        split
        · split
          · exact e3 _ ((zs_nq h43).trans e1)
          · exact (ff _ _).trans e1
        · exact (ff _ _).trans e1
      · funext j
        rw [fEx_s (hs j) h50 (Or.inl (by omega)) (Or.inl (by omega)), hM]
theorem fTl_q {a : Nat} (h : a < 42 ∨ 50 < a) (M : zm_I) : (fTl M).2 a = M a := (fRl_q h _ _ _).trans (fAv_q M (by omega))
theorem fTxL_q {a : Nat} (h : a < 42 ∨ 50 < a) : ∀ (m : Nat) (M : zm_I), (fTxL m M).2 a = M a
  | 0, M => funext fun j => fFail_s (by unfold zSl; omega) M _
  | m + 1, M => by
    unfold fTxL
    split
    · exact fAv_q M (by omega)
    · split
      · exact (fTxL_q h m _).trans (fTl_q h M)
      · exact fTl_q h M
theorem fTx_q {a : Nat} (h : a < 42 ∨ 50 < a) (M : zm_I) (n : Nat) : (fTx M n).2 a = M a := by
  unfold fTx
  rw [fTxL_q h]
  unfold fTx0
  rw [zs_nq (by omega), zs_nq (by omega), zs_nq (by omega), zs_nq (by omega), fRst_q _ (by omega) (by omega) (by omega), zs_nq (by omega), zs_nq (by omega)]
/-! told lines as bits -/
theorem zbt : ∀ b, b < 128 → ∀ w, w < 7 → ((nI b >>> (nI w &&& 31) &&& nI 1 = nI 1) ↔ b.testBit w = true) ∧ (nI b ||| (nI 1 <<< (nI w &&& 31))) = nI (b ||| 1 <<< w) ∧ b ||| 1 <<< w < 128 := by decide +kernel
theorem zbt2 (b w j : Nat) : (b ||| 1 <<< w).testBit j = (if j = w then true else b.testBit j) := by
  rw [Nat.testBit_or]
  by_cases h : j = w
  · rw [if_pos h, h, Nat.one_shiftLeft, Nat.testBit_two_pow_self, Bool.or_true]
  · rw [if_neg h, Nat.one_shiftLeft, Nat.testBit_two_pow_of_ne (fun q => h q.symm), Bool.or_false]
/-! between lines -/
def zFrT (X X' : zm_I) : Prop := (∀ a, a ≠ 87 → (a < 107 ∨ a = 109 ∨ 120 < a) → X' a = X a) ∧ (∀ a j, 110 ≤ a → a ≤ 114 → j < 64 → X' a j = X a j) ∧ (∀ j, j < 5 → X' 115 j = X 115 j ∧ X' 116 j = X 116 j) ∧ (∀ j, j < 2 → X' 107 j = X 107 j) ∧ (∀ j, (j < 29 ∨ j = 31 ∨ (35 < j ∧ j < 47) ∨ 58 < j) → X' 87 j = X 87 j) ∧ ((∀ j, X 108 j = 0 ∨ X 108 j = 1) → ∀ j, X' 108 j = 0 ∨ X' 108 j = 1)
theorem zFrT_rf (X : zm_I) : zFrT X X := ⟨fun _ _ _ => rfl, fun _ _ _ _ _ => rfl, fun _ _ => ⟨rfl, rfl⟩, fun _ _ => rfl, fun _ _ => rfl, id⟩
theorem zFrT_tr {A B D : zm_I} (h : zFrT A B) (h2 : zFrT B D) : zFrT A D := ⟨fun a x1 x2 => (h2.1 a x1 x2).trans (h.1 a x1 x2), fun a j x1 x2 x3 => (h2.2.1 a j x1 x2 x3).trans (h.2.1 a j x1 x2 x3), fun j x1 => ⟨(h2.2.2.1 j x1).1.trans (h.2.2.1 j x1).1, (h2.2.2.1 j x1).2.trans (h.2.2.1 j x1).2⟩, fun j x1 => (h2.2.2.2.1 j x1).trans (h.2.2.2.1 j x1), fun j x1 => (h2.2.2.2.2.1 j x1).trans (h.2.2.2.2.1 j x1), fun q => h2.2.2.2.2.2 (h.2.2.2.2.2 q)⟩
theorem zFrT_X {A B : zm_I} (h : zFrX A B) : zFrT A B := ⟨fun a x1 x2 => h.1 a x1 (by omega), h.2.1, fun j _ => by rw [h.1 115 (by decide) (by omega), h.1 116 (by decide) (by omega)]; exact ⟨rfl, rfl⟩, fun j _ => by rw [h.1 107 (by decide) (by omega)], h.2.2, fun q => by rw [h.1 108 (by decide) (by omega)]; exact q⟩
theorem zFrT_L {A B : zm_I} {l : Nat} (h : zFrL l A B) : zFrT A B := ⟨fun a x1 x2 => h.1 a x1 (by omega), h.2.1, fun j q => h.2.2.1 j (by omega), fun j _ => by rw [h.1 107 (by decide) (by omega)], h.2.2.2, fun q => by rw [h.1 108 (by decide) (by omega)]; exact q⟩
theorem zFrT_108 (A : zm_I) (w : Nat) : zFrT A (zs A 108 w (nI 1)) := ⟨fun a x1 x2 => zs_nq (by omega), fun a j x1 x2 x3 => by rw [zs_nq (by omega)], fun j _ => by rw [zs_nq (by decide), zs_nq (by decide)]; exact ⟨rfl, rfl⟩, fun j _ => by rw [zs_nq (by decide)], fun j _ => by rw [zs_nq (by decide)], fun q j => by
  by_cases e : j = w
  · rw [e, zs_eq]; exact Or.inr rfl
  · rw [zs_nj e]; exact q j⟩
theorem zFrT_107 (A : zm_I) (w : Nat) (v : Int32) (hw : 2 ≤ w) : zFrT A (zs A 107 w v) := ⟨fun a x1 x2 => zs_nq (by omega), fun a j x1 x2 x3 => by rw [zs_nq (by omega)], fun j _ => by rw [zs_nq (by decide), zs_nq (by decide)]; exact ⟨rfl, rfl⟩, fun j _ => zs_nj (by omega), fun j _ => by rw [zs_nq (by decide)], fun q => by rw [zs_nq (by decide)]; exact q⟩
def zLD (M X : zm_I) (dn : Nat → Nat) (s l : Nat) (t : Bool) : Prop := (t = false ∧ M 46 l = nI 0 ∧ M 47 l = nI 0) ∨ (t = true ∧ ∃ s0 m rt, s0 + m ≤ s ∧ M 46 l = nI s0 ∧ M 47 l = nI (s0 + m) ∧ X 115 (5 + l) = nI s0 ∧ X 116 (5 + l) = nI m ∧ zTD M X l s0 m dn [rt])
theorem zKf_at {M0 X0 M X : zm_I} (h : zKf M0 X0 M X) (k : X0 87 29 = nI 0 ∧ X0 87 30 = -1 ∧ M0 42 7 = nI 0 ∧ M0 42 8 = -1) : X 87 29 = nI 0 ∧ X 87 30 = -1 ∧ M 42 7 = nI 0 ∧ M 42 8 = -1 := ⟨h.1.trans k.1, h.2.1.trans k.2.1, h.2.2.1.trans k.2.2.1, h.2.2.2.trans k.2.2.2⟩
/-- between lines, without the token -/
def zLS (s b k : Nat) (dn : Nat → Nat) (M X : zm_I) : Prop :=
  (M 42 5 = nI s ∧ X 87 48 = nI s ∧ M 43 8 = nI s ∧ X 87 47 = nI s ∧ s ≤ 64) ∧ (∀ j, j < s → X 114 (64 + j) = nI (64 + dn j) ∧ dn j < s) ∧
  (b < 128 ∧ M 42 6 = nI b ∧ (∀ w, w < 7 → X 108 w = zb (b.testBit w = true)) ∧ ∀ w, X 108 w = 0 ∨ X 108 w = 1) ∧
  (X 107 2 = M 43 5 ∧ X 107 3 = M 43 6 ∧ M 43 7 = nI k) ∧ (X 87 29 = nI 0 ∧ X 87 30 = -1 ∧ M 42 7 = nI 0 ∧ M 42 8 = -1)
def zOl (wr0 : Nat) (dn0 : Nat → Nat) (M0 X0 : zm_I) (dn : Nat → Nat) (M X : zm_I) : Prop :=
  (∀ i, i < wr0 → dn i = dn0 i ∧ X 110 (64 + dn0 i) = X0 110 (64 + dn0 i) ∧ X 111 (64 + dn0 i) = X0 111 (64 + dn0 i) ∧ X 112 (64 + dn0 i) = X0 112 (64 + dn0 i) ∧ X 113 (64 + dn0 i) = X0 113 (64 + dn0 i)) ∧ ∀ c, c < wr0 → M 44 c = M0 44 c ∧ M 45 c = M0 45 c
theorem zOl_of {wr0 : Nat} {dn0 dn : Nat → Nat} {M0 X0 M X : zm_I} (h : zOld wr0 dn0 M0 X0 dn M X) : zOl wr0 dn0 M0 X0 dn M X := ⟨h.1, h.2.1⟩
theorem zTD_old {M X M' X' : zm_I} {l s0 m s : Nat} {dn dn' : Nat → Nat} {S : List Nat} (hO : zOl s dn M X dn' M' X') (hs : s0 + m ≤ s) (h : zTD M X l s0 m dn S) : zTD M' X' l s0 m dn' S := by
  obtain ⟨st, h1, h2, h3⟩ := h
  refine ⟨st, h1, h2, fun i hi => ?_⟩
  obtain ⟨a0, a1, a2, a3, a4⟩ := hO.1 (s0 + i) (by omega)
  rw [a0]
  exact zND_cg (hO.2 (s0 + i) (by omega)).1 (hO.2 (s0 + i) (by omega)).2 a1 a2 a3 a4 (h3 i hi)
theorem zLD_old {M X M' X' : zm_I} {l s s' : Nat} {dn dn' : Nat → Nat} {t : Bool} (hO : zOl s dn M X dn' M' X') (hs : s ≤ s') (h6 : M' 46 l = M 46 l) (h7 : M' 47 l = M 47 l) (x5 : X' 115 (5 + l) = X 115 (5 + l)) (x6 : X' 116 (5 + l) = X 116 (5 + l)) (h : zLD M X dn s l t) : zLD M' X' dn' s' l t := by
  unfold zLD at h ⊢
  rw [h6, h7, x5, x6]
  rcases h with h | ⟨h, s0, m, rt, h1, h2, h3, h4, h5, h8⟩
  · exact Or.inl h
  · exact Or.inr ⟨h, s0, m, rt, by omega, h2, h3, h4, h5, zTD_old hO h1 h8⟩
theorem zTS_tk {n nx : Nat} {M' X2 : zm_I} {pl2 nx2 : Nat} {w0 kd2 wh2 : Int32} (h2 : n ≤ 500) (h31 : X2 87 31 = nI n) (h6 : zTp n (M' 1) (X2 88)) (h7 : zWs X2) (m1 : M' 50 1 = nI n) (m3 : M' 50 3 = nI nx) (hn : nx ≤ n) (ht : rTkP (X2 88) n nx w0 pl2 nx2 kd2 wh2) :
    zTS n nx M' (rTk X2 (nI pl2) (nI nx2) kd2 wh2) pl2 nx2 kd2 wh2 := by
  refine ⟨⟨m1, h2, m3, hn, ?_, ?_, ?_⟩, ⟨w0, ?_⟩, ?_, ?_, ?_, ?_⟩
  · rw [rTk_j _ _ _ _ _ (by decide) (by decide) (by decide) (by decide)]; exact h31
  · rw [rTk_nq _ _ _ _ _ (by decide)]; exact h6
  · intro j hj
    rw [rTk_nq _ _ _ _ _ (by decide)]; exact h7 j hj
  · rw [rTk_nq _ _ _ _ _ (by decide)]; exact ht
  · simp [rTk]
  · simp [rTk]
  · simp [rTk]
  · simp [rTk]
theorem zTS_av {n i : Nat} {M X : zm_I} {pl nx : Nat} {kd wh : Int32} (h : zTS n i M X pl nx kd wh) : fAv M 50 2 = nI pl ∧ fAv M 50 3 = nI nx ∧ zTl kd wh (fAv M 50 4) (fAv M 50 5) ∧ nx ≤ n ∧ fAv M 50 1 = nI n ∧ i ≤ nx ∧ (¬ kd = nI 0 → i < nx) := by
  obtain ⟨⟨h1, h2, h3, h4, h5, h6, h7⟩, ⟨w0, h8⟩, _⟩ := h
  obtain ⟨a1, a2, a3, _⟩ := zTk h1 h2 h3 h4 h6 h8
  obtain ⟨b1, b2, b3⟩ := rTkP_nx h4 h8
  exact ⟨a1, a2, a3, b1, (fAv_1 M).trans h1, b2, b3⟩
/-- how a line ends -/
def zLnE (n i k : Nat) (X : zm_I) (R : Bool × zm_I) (z : Int32) (X' : zm_I) : Prop :=
  zFrT X X' ∧ ((R.1 = false ∧ z = nI 0 ∧ X' 87 29 = R.2 42 7 ∧ X' 87 30 = R.2 42 8) ∨
    (R.1 = true ∧ z = nI 1 ∧ ∃ (i' s' b' : Nat) (dn' : Nat → Nat), i < i' ∧ zLS s' b' (k + 1) dn' R.2 X' ∧ (∀ l, l < 5 → zLD R.2 X' dn' s' l (b'.testBit (2 + l))) ∧ ∃ pl nx kd wh, zTS n i' R.2 X' pl nx kd wh))
theorem zLnE_bad {n i k : Nat} {X N X1 : zm_I} {R : Bool × zm_I} {w : Int32} {pl : Nat} (hX : zFrT X X1) (hR : R = (false, fFail N w)) (h2 : N 50 2 = nI pl) (h35 : X1 87 35 = nI pl) : zLnE n i k X R (nI 0) (rWrong X1 w) :=
  ⟨zFrT_tr hX (zFrT_X (zFrX_wr X1 w)), Or.inl ⟨by rw [hR], rfl, by rw [hR]; rfl, by rw [hR]; show X1 87 35 = N 50 2; rw [h35, h2]⟩⟩
