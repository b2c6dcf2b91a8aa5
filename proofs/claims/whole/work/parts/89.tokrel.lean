/-! ===== tokens in class and reference ===== -/
/-- a byte of the text in the class (signed) and in the reference -/
def zBy (t r : Int32) : Prop := (0 ≤ t.toInt ∧ t.toInt ≤ 127 ∧ r = t) ∨ (t.toInt < 0 ∧ 128 ≤ r.toInt)
def zTp (n : Nat) (t r : Nat → Int32) : Prop := ∀ i, i < n → zBy (t i) (r i)
theorem zBy_eq {t r : Int32} (h : zBy t r) {k : Nat} (hk : k < 128) : t = nI k ↔ r = nI k := by
  have e := nI_toInt (n := k) (by omega)
  rcases h with ⟨h1, h2, h3⟩ | ⟨h1, h2⟩
  · rw [h3]
  · constructor
    · intro q
      rw [q, e] at h1
      omega
    · intro q
      rw [q, e] at h2
      omega
theorem zBy_rg {t r : Int32} (h : zBy t r) {a b : Nat} (ha : a < 128) (hb : b < 128) : (¬ t < nI a ∧ ¬ nI b < t) ↔ (¬ r < nI a ∧ ¬ nI b < r) := by
  have ea := nI_toInt (n := a) (by omega)
  have eb := nI_toInt (n := b) (by omega)
  rcases h with ⟨h1, h2, h3⟩ | ⟨h1, h2⟩
  · rw [h3]
  · rw [Int32.lt_iff_toInt_lt, Int32.lt_iff_toInt_lt, Int32.lt_iff_toInt_lt, Int32.lt_iff_toInt_lt, ea, eb]
    omega
theorem zBy_blk {t r : Int32} (h : zBy t r) : fBlk t ↔ fBlk r := by
  unfold fBlk
  rw [zBy_eq h (by decide), zBy_eq h (by decide)]
theorem zBy_let {t r : Int32} (h : zBy t r) : fLet t ↔ fLet r := zBy_rg h (by decide) (by decide)
theorem zBy_dig {t r : Int32} (h : zBy t r) : fDig t ↔ fDig r := zBy_rg h (by decide) (by decide)
theorem fSkp_cg {t r : Nat → Int32} : ∀ m i, (∀ j, i ≤ j → j < i + m → (fBlk (t j) ↔ fBlk (r j))) → fSkp t m i = fSkp r m i
  | 0, _, _ => rfl
  | m + 1, i, h => by
    show (if fBlk (t i) then fSkp t m (i + 1) else i) = if fBlk (r i) then fSkp r m (i + 1) else i
    rw [fSkp_cg m (i + 1) (fun j h1 h2 => h j (by omega) (by omega))]
    by_cases q : fBlk (t i)
    · rw [if_pos q, if_pos ((h i (by omega) (by omega)).mp q)]
    · rw [if_neg q, if_neg (fun z => q ((h i (by omega) (by omega)).mpr z))]
theorem fWrd_cg {t r : Nat → Int32} : ∀ m i, (∀ j, i ≤ j → j < i + m → (fLet (t j) ↔ fLet (r j))) → fWrd t m i = fWrd r m i
  | 0, _, _ => rfl
  | m + 1, i, h => by
    show (if fLet (t i) then fWrd t m (i + 1) else i) = if fLet (r i) then fWrd r m (i + 1) else i
    rw [fWrd_cg m (i + 1) (fun j h1 h2 => h j (by omega) (by omega))]
    by_cases q : fLet (t i)
    · rw [if_pos q, if_pos ((h i (by omega) (by omega)).mp q)]
    · rw [if_neg q, if_neg (fun z => q ((h i (by omega) (by omega)).mpr z))]
/-- a number in both: the same, or too large in both -/
def zNv (v w : Int32) : Prop := (∃ a, a ≤ 99999 ∧ v = nI a ∧ w = nI a) ∨ (∃ a b, 99999 < a ∧ a ≤ 1000000 ∧ 99999 < b ∧ b ≤ 999999 ∧ v = nI a ∧ w = nI b)
theorem zDig_nat {c : Int32} (h : fDig c) : ∃ d, d ≤ 9 ∧ c = nI (48 + d) := by
  have h1 : ¬ c < 0 := fun q => h.1 (Int32.lt_trans q (by decide))
  obtain ⟨j, hj, e⟩ := nI_of h1
  subst e
  have a1 : ¬ j < 48 := fun q => h.1 ((nI_ltI hj (by decide)).mpr q)
  have a2 : ¬ 57 < j := fun q => h.2 ((nI_ltI (by decide) hj).mpr q)
  exact ⟨j - 48, by omega, by rw [show 48 + (j - 48) = j by omega]⟩
theorem zNv_st {v w c : Int32} (hv : zNv v w) (hc : fDig c) : zNv (zmin (v * nI 10 + c - nI 48) (nI 1000000)) (if nI 99999 < w then w else nI 10 * w + c - nI 48) := by
  obtain ⟨d, hd, ed⟩ := zDig_nat hc
  subst ed
  have ev : ∀ a, nI a * nI 10 + nI (48 + d) - nI 48 = nI (a * 10 + d) := fun a => by
    rw [pk_mul, nI_add, pk_sub (by omega)]
    congr 1
    omega
  rcases hv with ⟨a, ha, e1, e2⟩ | ⟨a, b, ha1, ha2, hb1, hb2, e1, e2⟩
  · rw [e1, e2, ev, zmin_N (by omega) (by omega), if_neg (fun q => absurd ((nI_ltI (by decide) (by omega)).mp q) (by omega)), Nat.min_eq_left (by omega)]
    have e3 : nI 10 * nI a + nI (48 + d) - nI 48 = nI (a * 10 + d) := by
      rw [pk_mul, nI_add, pk_sub (by omega)]
      congr 1
      omega
    rw [e3]
    by_cases q : a * 10 + d ≤ 99999
    · exact Or.inl ⟨_, q, rfl, rfl⟩
    · exact Or.inr ⟨_, _, by omega, by omega, by omega, by omega, rfl, rfl⟩
  · rw [e1, e2, ev, zmin_N (by omega) (by omega), if_pos ((nI_ltI (by decide) (by omega)).mpr hb1)]
    exact Or.inr ⟨_, b, by omega, by omega, hb1, hb2, rfl, rfl⟩
theorem zNum {t r : Nat → Int32} : ∀ (m i : Nat) (v w : Int32), (∀ j, i ≤ j → j < i + m → zBy (t j) (r j)) → zNv v w → (fNum t m i v).1 = (rNum r m i w).1 ∧ zNv (fNum t m i v).2 (rNum r m i w).2
  | 0, _, _, _, _, hv => ⟨rfl, hv⟩
  | m + 1, i, v, w, h, hv => by
    have hb := h i (by omega) (by omega)
    show (if fDig (t i) then fNum t m (i + 1) (zmin (v * nI 10 + t i - nI 48) (nI 1000000)) else (i, v)).1 = (if fDig (r i) then rNum r m (i + 1) (if nI 99999 < w then w else nI 10 * w + r i - nI 48) else (i, w)).1 ∧ zNv (if fDig (t i) then fNum t m (i + 1) (zmin (v * nI 10 + t i - nI 48) (nI 1000000)) else (i, v)).2 (if fDig (r i) then rNum r m (i + 1) (if nI 99999 < w then w else nI 10 * w + r i - nI 48) else (i, w)).2
    by_cases q : fDig (t i)
    · have q2 := (zBy_dig hb).mp q
      have e : r i = t i := by
        rcases hb with ⟨_, _, e⟩ | ⟨h1, _⟩
        · exact e
        · obtain ⟨d, hd, ed⟩ := zDig_nat q
          rw [ed, nI_toInt (by omega)] at h1
          omega
      rw [if_pos q, if_pos q2, e]
      exact zNum m (i + 1) _ _ (fun j h1 h2 => h j (by omega) (by omega)) (zNv_st hv q)
    · rw [if_neg q, if_neg (fun z => q ((zBy_dig hb).mpr z))]
      exact ⟨rfl, hv⟩
/-- a sign in both -/
def zSgR (kc wh : Int32) : Prop := (∃ w, 1 ≤ w ∧ w ≤ 11 ∧ wh = nI w ∧ kc = nI (w + 10)) ∨ (wh = nI 59 ∧ kc = nI 5) ∨ (wh = nI 40 ∧ kc = nI 7) ∨ (wh = nI 41 ∧ kc = nI 6) ∨ (wh = -1 ∧ kc = nI 1)
theorem zSig {t r : Nat → Int32} {n i : Nat} (hi : i < n) (hT : zTp n t r) : zSgR (fSig t n i).2 (rSg r n (i + 1) (r i)) ∧ (fSig t n i).1 = if rSg r n (i + 1) (r i) = nI 2 ∨ rSg r n (i + 1) (r i) = nI 4 ∨ rSg r n (i + 1) (r i) = nI 5 then i + 2 else i + 1 := by
  have hb := hT i hi
  have k : ∀ k, k < 128 → (r i = nI k ↔ t i = nI k) := fun k hk => (zBy_eq hb hk).symm
  have hx : ∀ k, k < 128 → ((i + 1 < n ∧ r (i + 1) = nI k) ↔ (i + 1 < n ∧ t (i + 1) = nI k)) := fun k hk => by
    constructor
    · rintro ⟨a, b⟩; exact ⟨a, (zBy_eq (hT (i + 1) a) hk).mpr b⟩
    · rintro ⟨a, b⟩; exact ⟨a, (zBy_eq (hT (i + 1) a) hk).mp b⟩
  unfold fSig rSg
  by_cases c60 : t i = nI 60
  · have es : fSgn (t i) = nI 11 := by rw [c60]; decide
    have r60 := (k 60 (by decide)).mpr c60
    rw [es, if_pos r60]
    by_cases hn : i + 1 < n
    · rw [if_neg (show ¬ (n ≤ i + 1 ∨ (¬ nI 11 = nI 11 ∧ ¬ nI 11 = nI 16)) from fun q => q.elim (fun z => by omega) (fun z => z.1 rfl))]
      by_cases d1 : t (i + 1) = nI 61
      · rw [if_pos d1, if_pos ((hx 61 (by decide)).mpr ⟨hn, d1⟩), if_pos (Or.inl rfl)]
        exact ⟨Or.inl ⟨2, by decide, by decide, rfl, rfl⟩, rfl⟩
      · rw [if_neg d1, if_neg (fun q => d1 ((hx 61 (by decide)).mp q).2)]
        by_cases d2 : t (i + 1) = nI 62
        · rw [if_pos ⟨d2, rfl⟩, if_pos ((hx 62 (by decide)).mpr ⟨hn, d2⟩), if_pos (Or.inr (Or.inl rfl))]
          exact ⟨Or.inl ⟨4, by decide, by decide, rfl, rfl⟩, rfl⟩
        · rw [if_neg (fun q => d2 q.1), if_neg (fun q => d2 ((hx 62 (by decide)).mp q).2), if_neg (by decide)]
          exact ⟨Or.inl ⟨1, by decide, by decide, rfl, rfl⟩, rfl⟩
    · rw [if_pos (Or.inl (by omega)), if_neg (fun q => hn q.1), if_neg (fun q => hn q.1), if_neg (by decide)]
      exact ⟨Or.inl ⟨1, by decide, by decide, rfl, rfl⟩, rfl⟩
  · rw [if_neg (fun q => c60 ((k 60 (by decide)).mp q))]
    by_cases c62 : t i = nI 62
    · have es : fSgn (t i) = nI 16 := by rw [c62]; decide
      rw [es, if_pos ((k 62 (by decide)).mpr c62)]
      by_cases hn : i + 1 < n
      · rw [if_neg (show ¬ (n ≤ i + 1 ∨ (¬ nI 16 = nI 11 ∧ ¬ nI 16 = nI 16)) from fun q => q.elim (fun z => by omega) (fun z => z.2 rfl))]
        by_cases d1 : t (i + 1) = nI 61
        · rw [if_pos d1, if_pos ((hx 61 (by decide)).mpr ⟨hn, d1⟩), if_pos (Or.inr (Or.inr rfl))]
          exact ⟨Or.inl ⟨5, by decide, by decide, rfl, rfl⟩, rfl⟩
        · rw [if_neg d1, if_neg (fun q => d1 ((hx 61 (by decide)).mp q).2), if_neg (fun q => absurd q.2 (by decide)), if_neg (by decide)]
          exact ⟨Or.inl ⟨6, by decide, by decide, rfl, rfl⟩, rfl⟩
      · rw [if_pos (Or.inl (by omega)), if_neg (fun q => hn q.1), if_neg (by decide)]
        exact ⟨Or.inl ⟨6, by decide, by decide, rfl, rfl⟩, rfl⟩
    · rw [if_neg (fun q => c62 ((k 62 (by decide)).mp q))]
      have fin : ∀ (kc wh : Int32), fSgn (t i) = kc → ¬ kc = nI 11 → ¬ kc = nI 16 → zSgR kc wh → ¬ (wh = nI 2 ∨ wh = nI 4 ∨ wh = nI 5) → zSgR (if n ≤ i + 1 ∨ (¬ fSgn (t i) = nI 11 ∧ ¬ fSgn (t i) = nI 16) then (i + 1, fSgn (t i)) else if t (i + 1) = nI 61 then (i + 2, if fSgn (t i) = nI 11 then nI 12 else nI 15) else if t (i + 1) = nI 62 ∧ fSgn (t i) = nI 11 then (i + 2, nI 14) else (i + 1, fSgn (t i))).2 wh ∧ (if n ≤ i + 1 ∨ (¬ fSgn (t i) = nI 11 ∧ ¬ fSgn (t i) = nI 16) then (i + 1, fSgn (t i)) else if t (i + 1) = nI 61 then (i + 2, if fSgn (t i) = nI 11 then nI 12 else nI 15) else if t (i + 1) = nI 62 ∧ fSgn (t i) = nI 11 then (i + 2, nI 14) else (i + 1, fSgn (t i))).1 = if wh = nI 2 ∨ wh = nI 4 ∨ wh = nI 5 then i + 2 else i + 1 := fun kc wh e h1 h2 h3 h4 => by
        rw [e, if_pos (Or.inr ⟨h1, h2⟩), if_neg h4]
        exact ⟨h3, rfl⟩
      by_cases c61 : t i = nI 61
      · rw [if_pos ((k 61 (by decide)).mpr c61)]
        exact fin (nI 13) (nI 3) (by rw [c61]; decide) (by decide) (by decide) (Or.inl ⟨3, by decide, by decide, rfl, rfl⟩) (by decide)
      · rw [if_neg (fun q => c61 ((k 61 (by decide)).mp q))]
        by_cases c43 : t i = nI 43
        · rw [if_pos ((k 43 (by decide)).mpr c43)]
          exact fin (nI 17) (nI 7) (by rw [c43]; decide) (by decide) (by decide) (Or.inl ⟨7, by decide, by decide, rfl, rfl⟩) (by decide)
        · rw [if_neg (fun q => c43 ((k 43 (by decide)).mp q))]
          by_cases c45 : t i = nI 45
          · rw [if_pos ((k 45 (by decide)).mpr c45)]
            exact fin (nI 18) (nI 8) (by rw [c45]; decide) (by decide) (by decide) (Or.inl ⟨8, by decide, by decide, rfl, rfl⟩) (by decide)
          · rw [if_neg (fun q => c45 ((k 45 (by decide)).mp q))]
            by_cases c42 : t i = nI 42
            · rw [if_pos ((k 42 (by decide)).mpr c42)]
              exact fin (nI 19) (nI 9) (by rw [c42]; decide) (by decide) (by decide) (Or.inl ⟨9, by decide, by decide, rfl, rfl⟩) (by decide)
            · rw [if_neg (fun q => c42 ((k 42 (by decide)).mp q))]
              by_cases c47 : t i = nI 47
              · rw [if_pos ((k 47 (by decide)).mpr c47)]
                exact fin (nI 20) (nI 10) (by rw [c47]; decide) (by decide) (by decide) (Or.inl ⟨10, by decide, by decide, rfl, rfl⟩) (by decide)
              · rw [if_neg (fun q => c47 ((k 47 (by decide)).mp q))]
                by_cases c37 : t i = nI 37
                · rw [if_pos ((k 37 (by decide)).mpr c37)]
                  exact fin (nI 21) (nI 11) (by rw [c37]; decide) (by decide) (by decide) (Or.inl ⟨11, by decide, by decide, rfl, rfl⟩) (by decide)
                · rw [if_neg (fun q => c37 ((k 37 (by decide)).mp q))]
                  by_cases c59 : t i = nI 59
                  · have r59 := (k 59 (by decide)).mpr c59
                    rw [if_pos r59, r59]
                    exact fin (nI 5) (nI 59) (by rw [c59]; decide) (by decide) (by decide) (Or.inr (Or.inl ⟨rfl, rfl⟩)) (by decide)
                  · rw [if_neg (fun q => c59 ((k 59 (by decide)).mp q))]
                    by_cases c40 : t i = nI 40
                    · have r40 := (k 40 (by decide)).mpr c40
                      rw [if_pos r40, r40]
                      exact fin (nI 7) (nI 40) (by rw [c40]; decide) (by decide) (by decide) (Or.inr (Or.inr (Or.inl ⟨rfl, rfl⟩))) (by decide)
                    · rw [if_neg (fun q => c40 ((k 40 (by decide)).mp q))]
                      by_cases c41 : t i = nI 41
                      · have r41 := (k 41 (by decide)).mpr c41
                        rw [if_pos r41, r41]
                        exact fin (nI 6) (nI 41) (by rw [c41]; decide) (by decide) (by decide) (Or.inr (Or.inr (Or.inr (Or.inl ⟨rfl, rfl⟩)))) (by decide)
                      · rw [if_neg (fun q => c41 ((k 41 (by decide)).mp q))]
                        exact fin (nI 1) (-1) (by unfold fSgn; rw [if_neg c59, if_neg c41, if_neg c40, if_neg c60, if_neg c61, if_neg c62, if_neg c43, if_neg c45, if_neg c42, if_neg c47, if_neg c37]) (by decide) (by decide) (Or.inr (Or.inr (Or.inr (Or.inr ⟨rfl, rfl⟩)))) (by decide)
/-! words -/
theorem zWd : ∀ j, j < 21 → ∀ k, k < 21 → zWn j = zWn k → (∀ i, i < zWn j → zWl.getD (zWp j + i) 0 = zWl.getD (zWp k + i) 0) → j = k := by decide +kernel
theorem zWm_u {r : Nat → Int32} {b e j k : Nat} (hj : j < 21) (hk : k < 21) (h1 : zWm r b e j) (h2 : zWm r b e k) : j = k := zWd j hj k hk (h1.1.trans h2.1.symm) (fun i hi => (h1.2 i hi).trans (h2.2 i (by rw [h2.1, ← h1.1]; exact hi)).symm)
theorem zWl_s : ∀ j, j < 115 → ∃ c, c < 128 ∧ zWl.getD j 0 = nI c := by
  intro j hj
  have h : ∀ j, j < 115 → zWl.getD j 0 = nI (zi (zWl.getD j 0)) ∧ zi (zWl.getD j 0) < 128 := by decide +kernel
  exact ⟨_, (h j hj).2, (h j hj).1⟩
theorem fIsW_iff {C : zm_I} {r : Nat → Int32} {n q f k b e : Nat} (hk : k < 21) (hT : zTp n (C 1) r) (hbe : b ≤ e) (hen : e ≤ n) (hw : ∀ i, i < zWn k → (zm_byt.getD q []).getD (f + i) 0 = zWl.getD (zWp k + i) 0) : fIsW C q f (f + zWn k) b e ↔ zWm r b e k := by
  unfold fIsW zWm
  rw [show f + zWn k - f = zWn k by omega]
  have hl := zWp_l k hk
  constructor
  · rintro ⟨h1, h2⟩
    refine ⟨h1, fun j hj => ?_⟩
    obtain ⟨c, hc, ec⟩ := zWl_s (zWp k + j) (by omega)
    have h3 := h2 (f + j) (by omega) (by omega)
    rw [hw j hj, ec, show b + (f + j) - f = b + j by omega] at h3
    rw [ec]
    exact ((zBy_eq (hT (b + j) (by omega)) hc).mp h3.symm).symm
  · rintro ⟨h1, h2⟩
    refine ⟨h1, fun j hj hf => ?_⟩
    obtain ⟨i, hi⟩ : ∃ i, j = f + i := ⟨j - f, by omega⟩
    subst hi
    obtain ⟨c, hc, ec⟩ := zWl_s (zWp k + i) (by omega)
    have h3 := h2 i (by omega)
    rw [hw i (by omega), ec, show b + (f + i) - f = b + i by omega]
    rw [ec] at h3
    exact ((zBy_eq (hT (b + i) (by omega)) hc).mpr h3.symm).symm
theorem fWiE_0 (C : zm_I) (b e : Nat) : fWi C 0 b e = (if fIsW C 0 0 5 b e then nI 0 else (if fIsW C 0 6 10 b e then nI 1 else (if fIsW C 0 11 16 b e then nI 2 else (if fIsW C 0 17 22 b e then nI 3 else (if fIsW C 0 23 29 b e then nI 4 else (if fIsW C 0 30 36 b e then nI 5 else (if fIsW C 0 37 41 b e then nI 6 else -1))))))) := rfl
theorem fWiM_0 {C : zm_I} {r : Nat → Int32} {n b e : Nat} (hT : zTp n (C 1) r) (hbe : b ≤ e) (hen : e ≤ n) : (zWm r b e 0 → fWi C 0 b e = nI 0) ∧ (zWm r b e 1 → fWi C 0 b e = nI 1) ∧ (zWm r b e 2 → fWi C 0 b e = nI 2) ∧ (zWm r b e 3 → fWi C 0 b e = nI 3) ∧ (zWm r b e 4 → fWi C 0 b e = nI 4) ∧ (zWm r b e 5 → fWi C 0 b e = nI 5) ∧ (zWm r b e 6 → fWi C 0 b e = nI 6) ∧ (¬ zWm r b e 0 → ¬ zWm r b e 1 → ¬ zWm r b e 2 → ¬ zWm r b e 3 → ¬ zWm r b e 4 → ¬ zWm r b e 5 → ¬ zWm r b e 6 → fWi C 0 b e = -1) := by
  have m0 : fIsW C 0 0 5 b e ↔ zWm r b e 0 := fIsW_iff (f := 0) (k := 0) (by decide) hT hbe hen (by decide +kernel)
  have m1 : fIsW C 0 6 10 b e ↔ zWm r b e 1 := fIsW_iff (f := 6) (k := 1) (by decide) hT hbe hen (by decide +kernel)
  have m2 : fIsW C 0 11 16 b e ↔ zWm r b e 2 := fIsW_iff (f := 11) (k := 2) (by decide) hT hbe hen (by decide +kernel)
  have m3 : fIsW C 0 17 22 b e ↔ zWm r b e 3 := fIsW_iff (f := 17) (k := 3) (by decide) hT hbe hen (by decide +kernel)
  have m4 : fIsW C 0 23 29 b e ↔ zWm r b e 4 := fIsW_iff (f := 23) (k := 4) (by decide) hT hbe hen (by decide +kernel)
  have m5 : fIsW C 0 30 36 b e ↔ zWm r b e 5 := fIsW_iff (f := 30) (k := 5) (by decide) hT hbe hen (by decide +kernel)
  have m6 : fIsW C 0 37 41 b e ↔ zWm r b e 6 := fIsW_iff (f := 37) (k := 6) (by decide) hT hbe hen (by decide +kernel)
  rw [fWiE_0]
  refine ⟨?_, ?_, ?_, ?_, ?_, ?_, ?_, ?_⟩
  · intro h
    rw [if_pos (m0.mpr h)]
  · intro h
    rw [if_neg (fun z => absurd (zWm_u (by decide) (by decide) (m0.mp z) h) (by decide)), if_pos (m1.mpr h)]
  · intro h
    rw [if_neg (fun z => absurd (zWm_u (by decide) (by decide) (m0.mp z) h) (by decide)), if_neg (fun z => absurd (zWm_u (by decide) (by decide) (m1.mp z) h) (by decide)), if_pos (m2.mpr h)]
  · intro h
    rw [if_neg (fun z => absurd (zWm_u (by decide) (by decide) (m0.mp z) h) (by decide)), if_neg (fun z => absurd (zWm_u (by decide) (by decide) (m1.mp z) h) (by decide)), if_neg (fun z => absurd (zWm_u (by decide) (by decide) (m2.mp z) h) (by decide)), if_pos (m3.mpr h)]
  · intro h
    rw [if_neg (fun z => absurd (zWm_u (by decide) (by decide) (m0.mp z) h) (by decide)), if_neg (fun z => absurd (zWm_u (by decide) (by decide) (m1.mp z) h) (by decide)), if_neg (fun z => absurd (zWm_u (by decide) (by decide) (m2.mp z) h) (by decide)), if_neg (fun z => absurd (zWm_u (by decide) (by decide) (m3.mp z) h) (by decide)), if_pos (m4.mpr h)]
  · intro h
    rw [if_neg (fun z => absurd (zWm_u (by decide) (by decide) (m0.mp z) h) (by decide)), if_neg (fun z => absurd (zWm_u (by decide) (by decide) (m1.mp z) h) (by decide)), if_neg (fun z => absurd (zWm_u (by decide) (by decide) (m2.mp z) h) (by decide)), if_neg (fun z => absurd (zWm_u (by decide) (by decide) (m3.mp z) h) (by decide)), if_neg (fun z => absurd (zWm_u (by decide) (by decide) (m4.mp z) h) (by decide)), if_pos (m5.mpr h)]
  · intro h
    rw [if_neg (fun z => absurd (zWm_u (by decide) (by decide) (m0.mp z) h) (by decide)), if_neg (fun z => absurd (zWm_u (by decide) (by decide) (m1.mp z) h) (by decide)), if_neg (fun z => absurd (zWm_u (by decide) (by decide) (m2.mp z) h) (by decide)), if_neg (fun z => absurd (zWm_u (by decide) (by decide) (m3.mp z) h) (by decide)), if_neg (fun z => absurd (zWm_u (by decide) (by decide) (m4.mp z) h) (by decide)), if_neg (fun z => absurd (zWm_u (by decide) (by decide) (m5.mp z) h) (by decide)), if_pos (m6.mpr h)]
  · intro n0 n1 n2 n3 n4 n5 n6
    rw [if_neg (fun z => n0 (m0.mp z)), if_neg (fun z => n1 (m1.mp z)), if_neg (fun z => n2 (m2.mp z)), if_neg (fun z => n3 (m3.mp z)), if_neg (fun z => n4 (m4.mp z)), if_neg (fun z => n5 (m5.mp z)), if_neg (fun z => n6 (m6.mp z))]

theorem fWiE_1 (C : zm_I) (b e : Nat) : fWi C 1 b e = (if fIsW C 1 0 2 b e then nI 0 else (if fIsW C 1 3 6 b e then nI 1 else (if fIsW C 1 7 10 b e then nI 2 else -1))) := rfl
theorem fWiM_1 {C : zm_I} {r : Nat → Int32} {n b e : Nat} (hT : zTp n (C 1) r) (hbe : b ≤ e) (hen : e ≤ n) : (zWm r b e 7 → fWi C 1 b e = nI 0) ∧ (zWm r b e 8 → fWi C 1 b e = nI 1) ∧ (zWm r b e 9 → fWi C 1 b e = nI 2) ∧ (¬ zWm r b e 7 → ¬ zWm r b e 8 → ¬ zWm r b e 9 → fWi C 1 b e = -1) := by
  have m0 : fIsW C 1 0 2 b e ↔ zWm r b e 7 := fIsW_iff (f := 0) (k := 7) (by decide) hT hbe hen (by decide +kernel)
  have m1 : fIsW C 1 3 6 b e ↔ zWm r b e 8 := fIsW_iff (f := 3) (k := 8) (by decide) hT hbe hen (by decide +kernel)
  have m2 : fIsW C 1 7 10 b e ↔ zWm r b e 9 := fIsW_iff (f := 7) (k := 9) (by decide) hT hbe hen (by decide +kernel)
  rw [fWiE_1]
  refine ⟨?_, ?_, ?_, ?_⟩
  · intro h
    rw [if_pos (m0.mpr h)]
  · intro h
    rw [if_neg (fun z => absurd (zWm_u (by decide) (by decide) (m0.mp z) h) (by decide)), if_pos (m1.mpr h)]
  · intro h
    rw [if_neg (fun z => absurd (zWm_u (by decide) (by decide) (m0.mp z) h) (by decide)), if_neg (fun z => absurd (zWm_u (by decide) (by decide) (m1.mp z) h) (by decide)), if_pos (m2.mpr h)]
  · intro n0 n1 n2
    rw [if_neg (fun z => n0 (m0.mp z)), if_neg (fun z => n1 (m1.mp z)), if_neg (fun z => n2 (m2.mp z))]

theorem fWiE_2 (C : zm_I) (b e : Nat) : fWi C 2 b e = (if fIsW C 2 0 6 b e then nI 0 else (if fIsW C 2 7 12 b e then nI 1 else (if fIsW C 2 13 19 b e then nI 2 else (if fIsW C 2 20 25 b e then nI 3 else (if fIsW C 2 26 30 b e then nI 4 else (if fIsW C 2 31 36 b e then nI 5 else (if fIsW C 2 37 40 b e then nI 6 else (if fIsW C 2 41 48 b e then nI 7 else (if fIsW C 2 49 54 b e then nI 8 else (if fIsW C 2 55 59 b e then nI 9 else (if fIsW C 2 60 65 b e then nI 10 else -1))))))))))) := rfl
theorem fWiM_2 {C : zm_I} {r : Nat → Int32} {n b e : Nat} (hT : zTp n (C 1) r) (hbe : b ≤ e) (hen : e ≤ n) : (zWm r b e 10 → fWi C 2 b e = nI 0) ∧ (zWm r b e 11 → fWi C 2 b e = nI 1) ∧ (zWm r b e 12 → fWi C 2 b e = nI 2) ∧ (zWm r b e 13 → fWi C 2 b e = nI 3) ∧ (zWm r b e 14 → fWi C 2 b e = nI 4) ∧ (zWm r b e 15 → fWi C 2 b e = nI 5) ∧ (zWm r b e 16 → fWi C 2 b e = nI 6) ∧ (zWm r b e 17 → fWi C 2 b e = nI 7) ∧ (zWm r b e 0 → fWi C 2 b e = nI 8) ∧ (zWm r b e 19 → fWi C 2 b e = nI 9) ∧ (zWm r b e 20 → fWi C 2 b e = nI 10) ∧ (¬ zWm r b e 10 → ¬ zWm r b e 11 → ¬ zWm r b e 12 → ¬ zWm r b e 13 → ¬ zWm r b e 14 → ¬ zWm r b e 15 → ¬ zWm r b e 16 → ¬ zWm r b e 17 → ¬ zWm r b e 0 → ¬ zWm r b e 19 → ¬ zWm r b e 20 → fWi C 2 b e = -1) := by
  have m0 : fIsW C 2 0 6 b e ↔ zWm r b e 10 := fIsW_iff (f := 0) (k := 10) (by decide) hT hbe hen (by decide +kernel)
  have m1 : fIsW C 2 7 12 b e ↔ zWm r b e 11 := fIsW_iff (f := 7) (k := 11) (by decide) hT hbe hen (by decide +kernel)
  have m2 : fIsW C 2 13 19 b e ↔ zWm r b e 12 := fIsW_iff (f := 13) (k := 12) (by decide) hT hbe hen (by decide +kernel)
  have m3 : fIsW C 2 20 25 b e ↔ zWm r b e 13 := fIsW_iff (f := 20) (k := 13) (by decide) hT hbe hen (by decide +kernel)
  have m4 : fIsW C 2 26 30 b e ↔ zWm r b e 14 := fIsW_iff (f := 26) (k := 14) (by decide) hT hbe hen (by decide +kernel)
  have m5 : fIsW C 2 31 36 b e ↔ zWm r b e 15 := fIsW_iff (f := 31) (k := 15) (by decide) hT hbe hen (by decide +kernel)
  have m6 : fIsW C 2 37 40 b e ↔ zWm r b e 16 := fIsW_iff (f := 37) (k := 16) (by decide) hT hbe hen (by decide +kernel)
  have m7 : fIsW C 2 41 48 b e ↔ zWm r b e 17 := fIsW_iff (f := 41) (k := 17) (by decide) hT hbe hen (by decide +kernel)
  have m8 : fIsW C 2 49 54 b e ↔ zWm r b e 0 := fIsW_iff (f := 49) (k := 0) (by decide) hT hbe hen (by decide +kernel)
  have m9 : fIsW C 2 55 59 b e ↔ zWm r b e 19 := fIsW_iff (f := 55) (k := 19) (by decide) hT hbe hen (by decide +kernel)
  have m10 : fIsW C 2 60 65 b e ↔ zWm r b e 20 := fIsW_iff (f := 60) (k := 20) (by decide) hT hbe hen (by decide +kernel)
  rw [fWiE_2]
  refine ⟨?_, ?_, ?_, ?_, ?_, ?_, ?_, ?_, ?_, ?_, ?_, ?_⟩
  · intro h
    rw [if_pos (m0.mpr h)]
  · intro h
    rw [if_neg (fun z => absurd (zWm_u (by decide) (by decide) (m0.mp z) h) (by decide)), if_pos (m1.mpr h)]
  · intro h
    rw [if_neg (fun z => absurd (zWm_u (by decide) (by decide) (m0.mp z) h) (by decide)), if_neg (fun z => absurd (zWm_u (by decide) (by decide) (m1.mp z) h) (by decide)), if_pos (m2.mpr h)]
  · intro h
    rw [if_neg (fun z => absurd (zWm_u (by decide) (by decide) (m0.mp z) h) (by decide)), if_neg (fun z => absurd (zWm_u (by decide) (by decide) (m1.mp z) h) (by decide)), if_neg (fun z => absurd (zWm_u (by decide) (by decide) (m2.mp z) h) (by decide)), if_pos (m3.mpr h)]
  · intro h
    rw [if_neg (fun z => absurd (zWm_u (by decide) (by decide) (m0.mp z) h) (by decide)), if_neg (fun z => absurd (zWm_u (by decide) (by decide) (m1.mp z) h) (by decide)), if_neg (fun z => absurd (zWm_u (by decide) (by decide) (m2.mp z) h) (by decide)), if_neg (fun z => absurd (zWm_u (by decide) (by decide) (m3.mp z) h) (by decide)), if_pos (m4.mpr h)]
  · intro h
    rw [if_neg (fun z => absurd (zWm_u (by decide) (by decide) (m0.mp z) h) (by decide)), if_neg (fun z => absurd (zWm_u (by decide) (by decide) (m1.mp z) h) (by decide)), if_neg (fun z => absurd (zWm_u (by decide) (by decide) (m2.mp z) h) (by decide)), if_neg (fun z => absurd (zWm_u (by decide) (by decide) (m3.mp z) h) (by decide)), if_neg (fun z => absurd (zWm_u (by decide) (by decide) (m4.mp z) h) (by decide)), if_pos (m5.mpr h)]
  · intro h
    rw [if_neg (fun z => absurd (zWm_u (by decide) (by decide) (m0.mp z) h) (by decide)), if_neg (fun z => absurd (zWm_u (by decide) (by decide) (m1.mp z) h) (by decide)), if_neg (fun z => absurd (zWm_u (by decide) (by decide) (m2.mp z) h) (by decide)), if_neg (fun z => absurd (zWm_u (by decide) (by decide) (m3.mp z) h) (by decide)), if_neg (fun z => absurd (zWm_u (by decide) (by decide) (m4.mp z) h) (by decide)), if_neg (fun z => absurd (zWm_u (by decide) (by decide) (m5.mp z) h) (by decide)), if_pos (m6.mpr h)]
  · intro h
    rw [if_neg (fun z => absurd (zWm_u (by decide) (by decide) (m0.mp z) h) (by decide)), if_neg (fun z => absurd (zWm_u (by decide) (by decide) (m1.mp z) h) (by decide)), if_neg (fun z => absurd (zWm_u (by decide) (by decide) (m2.mp z) h) (by decide)), if_neg (fun z => absurd (zWm_u (by decide) (by decide) (m3.mp z) h) (by decide)), if_neg (fun z => absurd (zWm_u (by decide) (by decide) (m4.mp z) h) (by decide)), if_neg (fun z => absurd (zWm_u (by decide) (by decide) (m5.mp z) h) (by decide)), if_neg (fun z => absurd (zWm_u (by decide) (by decide) (m6.mp z) h) (by decide)), if_pos (m7.mpr h)]
  · intro h
    rw [if_neg (fun z => absurd (zWm_u (by decide) (by decide) (m0.mp z) h) (by decide)), if_neg (fun z => absurd (zWm_u (by decide) (by decide) (m1.mp z) h) (by decide)), if_neg (fun z => absurd (zWm_u (by decide) (by decide) (m2.mp z) h) (by decide)), if_neg (fun z => absurd (zWm_u (by decide) (by decide) (m3.mp z) h) (by decide)), if_neg (fun z => absurd (zWm_u (by decide) (by decide) (m4.mp z) h) (by decide)), if_neg (fun z => absurd (zWm_u (by decide) (by decide) (m5.mp z) h) (by decide)), if_neg (fun z => absurd (zWm_u (by decide) (by decide) (m6.mp z) h) (by decide)), if_neg (fun z => absurd (zWm_u (by decide) (by decide) (m7.mp z) h) (by decide)), if_pos (m8.mpr h)]
  · intro h
    rw [if_neg (fun z => absurd (zWm_u (by decide) (by decide) (m0.mp z) h) (by decide)), if_neg (fun z => absurd (zWm_u (by decide) (by decide) (m1.mp z) h) (by decide)), if_neg (fun z => absurd (zWm_u (by decide) (by decide) (m2.mp z) h) (by decide)), if_neg (fun z => absurd (zWm_u (by decide) (by decide) (m3.mp z) h) (by decide)), if_neg (fun z => absurd (zWm_u (by decide) (by decide) (m4.mp z) h) (by decide)), if_neg (fun z => absurd (zWm_u (by decide) (by decide) (m5.mp z) h) (by decide)), if_neg (fun z => absurd (zWm_u (by decide) (by decide) (m6.mp z) h) (by decide)), if_neg (fun z => absurd (zWm_u (by decide) (by decide) (m7.mp z) h) (by decide)), if_neg (fun z => absurd (zWm_u (by decide) (by decide) (m8.mp z) h) (by decide)), if_pos (m9.mpr h)]
  · intro h
    rw [if_neg (fun z => absurd (zWm_u (by decide) (by decide) (m0.mp z) h) (by decide)), if_neg (fun z => absurd (zWm_u (by decide) (by decide) (m1.mp z) h) (by decide)), if_neg (fun z => absurd (zWm_u (by decide) (by decide) (m2.mp z) h) (by decide)), if_neg (fun z => absurd (zWm_u (by decide) (by decide) (m3.mp z) h) (by decide)), if_neg (fun z => absurd (zWm_u (by decide) (by decide) (m4.mp z) h) (by decide)), if_neg (fun z => absurd (zWm_u (by decide) (by decide) (m5.mp z) h) (by decide)), if_neg (fun z => absurd (zWm_u (by decide) (by decide) (m6.mp z) h) (by decide)), if_neg (fun z => absurd (zWm_u (by decide) (by decide) (m7.mp z) h) (by decide)), if_neg (fun z => absurd (zWm_u (by decide) (by decide) (m8.mp z) h) (by decide)), if_neg (fun z => absurd (zWm_u (by decide) (by decide) (m9.mp z) h) (by decide)), if_pos (m10.mpr h)]
  · intro n0 n1 n2 n3 n4 n5 n6 n7 n8 n9 n10
    rw [if_neg (fun z => n0 (m0.mp z)), if_neg (fun z => n1 (m1.mp z)), if_neg (fun z => n2 (m2.mp z)), if_neg (fun z => n3 (m3.mp z)), if_neg (fun z => n4 (m4.mp z)), if_neg (fun z => n5 (m5.mp z)), if_neg (fun z => n6 (m6.mp z)), if_neg (fun z => n7 (m7.mp z)), if_neg (fun z => n8 (m8.mp z)), if_neg (fun z => n9 (m9.mp z)), if_neg (fun z => n10 (m10.mp z))]

