/-! the tokens -/
def fTk (gi : zm_I) (b i k v : Int32) : zm_I := fun a j => if a = 50 then (if j = 2 then b else if j = 3 then i else if j = 4 then k else if j = 5 then v else gi 50 j) else gi a j
theorem fTk_2 (gi : zm_I) (b i k v w : Int32) : zs (fTk gi b i k v) 50 2 w = fTk gi w i k v := by
  funext a j
  by_cases ha : a = 50
  · subst ha
    by_cases hj : j = 2
    · subst hj; rw [zs_eq]; rfl
    · rw [zs_nj hj]; simp only [fTk, if_neg hj, if_true]
  · rw [zs_nq ha]; simp only [fTk, if_neg ha]
theorem fTk_3 (gi : zm_I) (b i k v w : Int32) : zs (fTk gi b i k v) 50 3 w = fTk gi b w k v := by
  funext a j
  by_cases ha : a = 50
  · subst ha
    by_cases hj : j = 3
    · subst hj; rw [zs_eq]; rfl
    · rw [zs_nj hj]; simp only [fTk, if_neg hj, if_true]
  · rw [zs_nq ha]; simp only [fTk, if_neg ha]
theorem fTk_4 (gi : zm_I) (b i k v w : Int32) : zs (fTk gi b i k v) 50 4 w = fTk gi b i w v := by
  funext a j
  by_cases ha : a = 50
  · subst ha
    by_cases hj : j = 4
    · subst hj; rw [zs_eq]; rfl
    · rw [zs_nj hj]; simp only [fTk, if_neg hj, if_true]
  · rw [zs_nq ha]; simp only [fTk, if_neg ha]
theorem fTk_5 (gi : zm_I) (b i k v w : Int32) : zs (fTk gi b i k v) 50 5 w = fTk gi b i k w := by
  funext a j
  by_cases ha : a = 50
  · subst ha
    by_cases hj : j = 5
    · subst hj; rw [zs_eq]; rfl
    · rw [zs_nj hj]; simp only [fTk, if_neg hj, if_true]
  · rw [zs_nq ha]; simp only [fTk, if_neg ha]
theorem fTk_id (gi : zm_I) : fTk gi (gi 50 2) (gi 50 3) (gi 50 4) (gi 50 5) = gi := by
  funext a j
  by_cases ha : a = 50
  · subst ha
    show (if j = 2 then _ else if j = 3 then _ else if j = 4 then _ else if j = 5 then _ else gi 50 j) = gi 50 j
    split
    · next h => rw [h]
    · split
      · next h => rw [h]
      · split
        · next h => rw [h]
        · split
          · next h => rw [h]
          · rfl
  · exact if_neg ha
theorem fTk_nq (gi : zm_I) (b i k v : Int32) {a : Nat} (h : a ≠ 50) : fTk gi b i k v a = gi a := funext (fun _ => if_neg h)
abbrev fLet (c : Int32) : Prop := ¬ c < nI 97 ∧ ¬ nI 122 < c
abbrev fDig (c : Int32) : Prop := ¬ c < nI 48 ∧ ¬ nI 57 < c
abbrev fBlk (c : Int32) : Prop := c = nI 32 ∨ c = nI 10
def fSkp (t : Nat → Int32) : Nat → Nat → Nat
  | 0, i => i
  | m + 1, i => if fBlk (t i) then fSkp t m (i + 1) else i
def fWrd (t : Nat → Int32) : Nat → Nat → Nat
  | 0, i => i
  | m + 1, i => if fLet (t i) then fWrd t m (i + 1) else i
def fNum (t : Nat → Int32) : Nat → Nat → Int32 → Nat × Int32
  | 0, i, v => (i, v)
  | m + 1, i, v => if fDig (t i) then fNum t m (i + 1) (zmin (v * nI 10 + t i - nI 48) (nI 1000000)) else (i, v)
theorem fSkp_le (t : Nat → Int32) : ∀ m i, i ≤ fSkp t m i ∧ fSkp t m i ≤ i + m
  | 0, i => ⟨Nat.le_refl _, Nat.le_refl _⟩
  | m + 1, i => by
    have h := fSkp_le t m (i + 1)
    show i ≤ (if _ then _ else _) ∧ (if _ then _ else _) ≤ _
    split <;> omega
theorem fWrd_le (t : Nat → Int32) : ∀ m i, i ≤ fWrd t m i ∧ fWrd t m i ≤ i + m
  | 0, i => ⟨Nat.le_refl _, Nat.le_refl _⟩
  | m + 1, i => by
    have h := fWrd_le t m (i + 1)
    show i ≤ (if _ then _ else _) ∧ (if _ then _ else _) ≤ _
    split <;> omega
theorem fNum_le (t : Nat → Int32) : ∀ m i v, i ≤ (fNum t m i v).1 ∧ (fNum t m i v).1 ≤ i + m
  | 0, i, v => ⟨Nat.le_refl _, Nat.le_refl _⟩
  | m + 1, i, v => by
    have h := fNum_le t m (i + 1) (zmin (v * nI 10 + t i - nI 48) (nI 1000000))
    show i ≤ (if _ then _ else _ : Nat × Int32).1 ∧ (if _ then _ else _ : Nat × Int32).1 ≤ _
    split
    · omega
    · exact ⟨Nat.le_refl _, by show i ≤ _; omega⟩
def fSgn (c : Int32) : Int32 := if c = nI 59 then nI 5 else if c = nI 41 then nI 6 else if c = nI 40 then nI 7 else if c = nI 60 then nI 11 else if c = nI 61 then nI 13 else if c = nI 62 then nI 16 else if c = nI 43 then nI 17 else if c = nI 45 then nI 18 else if c = nI 42 then nI 19 else if c = nI 47 then nI 20 else if c = nI 37 then nI 21 else nI 1
def fSig (t : Nat → Int32) (n i : Nat) : Nat × Int32 :=
  if n ≤ i + 1 ∨ (¬ fSgn (t i) = nI 11 ∧ ¬ fSgn (t i) = nI 16) then (i + 1, fSgn (t i))
  else if t (i + 1) = nI 61 then (i + 2, if fSgn (t i) = nI 11 then nI 12 else nI 15)
  else if t (i + 1) = nI 62 ∧ fSgn (t i) = nI 11 then (i + 2, nI 14) else (i + 1, fSgn (t i))
theorem zsg_cs {q : Nat} (h : 37 ≤ q ∧ q ≤ 62) : q = 37 ∨ q = 38 ∨ q = 39 ∨ q = 40 ∨ q = 41 ∨ q = 42 ∨ q = 43 ∨ q = 44 ∨ q = 45 ∨ q = 46 ∨ q = 47 ∨ q = 48 ∨ q = 49 ∨ q = 50 ∨ q = 51 ∨ q = 52 ∨ q = 53 ∨ q = 54 ∨ q = 55 ∨ q = 56 ∨ q = 57 ∨ q = 58 ∨ q = 59 ∨ q = 60 ∨ q = 61 ∨ q = 62 := by omega
theorem zsg_in {c : Int32} (h : ¬ (c.toInt < 37 ∨ 62 < c.toInt)) : ∃ q : Nat, (37 ≤ q ∧ q ≤ 62) ∧ c = nI q := by
  rcases zwi_dec 62 c (by decide) with ⟨q, hq, e⟩ | h2
  · have e2 : c.toInt = (q : Int) := by rw [e]; exact nI_toInt (by omega)
    exact ⟨q, by omega, e⟩
  · exact absurd h (by omega)
theorem fSgn_out {c : Int32} (h : c.toInt < 37 ∨ 62 < c.toInt) : nI 1 = fSgn c := by
  have key : ∀ k : Nat, 37 ≤ k → k ≤ 62 → ¬ c = nI k := by
    intro k h1 h2 e
    rw [e] at h
    rcases zsg_cs ⟨h1, h2⟩ with rfl | rfl | rfl | rfl | rfl | rfl | rfl | rfl | rfl | rfl | rfl | rfl | rfl | rfl | rfl | rfl | rfl | rfl | rfl | rfl | rfl | rfl | rfl | rfl | rfl | rfl <;> revert h <;> decide
  unfold fSgn
  rw [if_neg (key 59 (by decide) (by decide)), if_neg (key 41 (by decide) (by decide)), if_neg (key 40 (by decide) (by decide)), if_neg (key 60 (by decide) (by decide)), if_neg (key 61 (by decide) (by decide)), if_neg (key 62 (by decide) (by decide)), if_neg (key 43 (by decide) (by decide)), if_neg (key 45 (by decide) (by decide)), if_neg (key 42 (by decide) (by decide)), if_neg (key 47 (by decide) (by decide)), if_neg (key 37 (by decide) (by decide))]
theorem ct_ofSign (g : zm_G) {sh : List zm_K} (gi : zm_I) (gl : zm_J) (gr : zm_R) (c : Int32)  : zC_i g yX2_ofSign mX2_ofSign 0 [.int c] sh gi gl gr (fun z gi' gl' gr' => z = fSgn c ∧ gi' = gi ∧ gl' = gl ∧ gr' = gr) := by
  refine zC_i_of [some (.int c)] (by decide) rfl rfl (Nat.le_of_ble_eq_true rfl) (fun x => ?_)
  refine zA_iload_0 dX2_ofSign_0 ?_
  by_cases hq : c.toInt < 37 ∨ 62 < c.toInt
  · refine zA_tableOut 152 dX2_ofSign_1 hq (by decide) ?_
    refine zA_iconst (nI 1) dX2_ofSign_152 ic_1 ?_
    exact zB_iret rfl dX2_ofSign_153 (⟨fSgn_out hq, rfl, rfl, rfl⟩)
  · obtain ⟨q, hq1, rfl⟩ := zsg_in hq
    rcases zsg_cs hq1 with rfl | rfl | rfl | rfl | rfl | rfl | rfl | rfl | rfl | rfl | rfl | rfl | rfl | rfl | rfl | rfl | rfl | rfl | rfl | rfl | rfl | rfl | rfl | rfl | rfl | rfl
    · refine zA_tableIn 149 dX2_ofSign_1 (by decide) (by decide) (off := 148) (by decide) (by decide) ?_
      refine zA_bipush (nI 21) dX2_ofSign_149 bc_21 ?_
      exact zB_iret rfl dX2_ofSign_151 (⟨by decide, rfl, rfl, rfl⟩)
    · refine zA_tableIn 152 dX2_ofSign_1 (by decide) (by decide) (off := 151) (by decide) (by decide) ?_
      refine zA_iconst (nI 1) dX2_ofSign_152 ic_1 ?_
      exact zB_iret rfl dX2_ofSign_153 (⟨by decide, rfl, rfl, rfl⟩)
    · refine zA_tableIn 152 dX2_ofSign_1 (by decide) (by decide) (off := 151) (by decide) (by decide) ?_
      refine zA_iconst (nI 1) dX2_ofSign_152 ic_1 ?_
      exact zB_iret rfl dX2_ofSign_153 (⟨by decide, rfl, rfl, rfl⟩)
    · refine zA_tableIn 122 dX2_ofSign_1 (by decide) (by decide) (off := 121) (by decide) (by decide) ?_
      refine zA_bipush (nI 7) dX2_ofSign_122 bc_7 ?_
      exact zB_iret rfl dX2_ofSign_124 (⟨by decide, rfl, rfl, rfl⟩)
    · refine zA_tableIn 125 dX2_ofSign_1 (by decide) (by decide) (off := 124) (by decide) (by decide) ?_
      refine zA_bipush (nI 6) dX2_ofSign_125 bc_6 ?_
      exact zB_iret rfl dX2_ofSign_127 (⟨by decide, rfl, rfl, rfl⟩)
    · refine zA_tableIn 143 dX2_ofSign_1 (by decide) (by decide) (off := 142) (by decide) (by decide) ?_
      refine zA_bipush (nI 19) dX2_ofSign_143 bc_19 ?_
      exact zB_iret rfl dX2_ofSign_145 (⟨by decide, rfl, rfl, rfl⟩)
    · refine zA_tableIn 137 dX2_ofSign_1 (by decide) (by decide) (off := 136) (by decide) (by decide) ?_
      refine zA_bipush (nI 17) dX2_ofSign_137 bc_17 ?_
      exact zB_iret rfl dX2_ofSign_139 (⟨by decide, rfl, rfl, rfl⟩)
    · refine zA_tableIn 152 dX2_ofSign_1 (by decide) (by decide) (off := 151) (by decide) (by decide) ?_
      refine zA_iconst (nI 1) dX2_ofSign_152 ic_1 ?_
      exact zB_iret rfl dX2_ofSign_153 (⟨by decide, rfl, rfl, rfl⟩)
    · refine zA_tableIn 140 dX2_ofSign_1 (by decide) (by decide) (off := 139) (by decide) (by decide) ?_
      refine zA_bipush (nI 18) dX2_ofSign_140 bc_18 ?_
      exact zB_iret rfl dX2_ofSign_142 (⟨by decide, rfl, rfl, rfl⟩)
    · refine zA_tableIn 152 dX2_ofSign_1 (by decide) (by decide) (off := 151) (by decide) (by decide) ?_
      refine zA_iconst (nI 1) dX2_ofSign_152 ic_1 ?_
      exact zB_iret rfl dX2_ofSign_153 (⟨by decide, rfl, rfl, rfl⟩)
    · refine zA_tableIn 146 dX2_ofSign_1 (by decide) (by decide) (off := 145) (by decide) (by decide) ?_
      refine zA_bipush (nI 20) dX2_ofSign_146 bc_20 ?_
      exact zB_iret rfl dX2_ofSign_148 (⟨by decide, rfl, rfl, rfl⟩)
    · refine zA_tableIn 152 dX2_ofSign_1 (by decide) (by decide) (off := 151) (by decide) (by decide) ?_
      refine zA_iconst (nI 1) dX2_ofSign_152 ic_1 ?_
      exact zB_iret rfl dX2_ofSign_153 (⟨by decide, rfl, rfl, rfl⟩)
    · refine zA_tableIn 152 dX2_ofSign_1 (by decide) (by decide) (off := 151) (by decide) (by decide) ?_
      refine zA_iconst (nI 1) dX2_ofSign_152 ic_1 ?_
      exact zB_iret rfl dX2_ofSign_153 (⟨by decide, rfl, rfl, rfl⟩)
    · refine zA_tableIn 152 dX2_ofSign_1 (by decide) (by decide) (off := 151) (by decide) (by decide) ?_
      refine zA_iconst (nI 1) dX2_ofSign_152 ic_1 ?_
      exact zB_iret rfl dX2_ofSign_153 (⟨by decide, rfl, rfl, rfl⟩)
    · refine zA_tableIn 152 dX2_ofSign_1 (by decide) (by decide) (off := 151) (by decide) (by decide) ?_
      refine zA_iconst (nI 1) dX2_ofSign_152 ic_1 ?_
      exact zB_iret rfl dX2_ofSign_153 (⟨by decide, rfl, rfl, rfl⟩)
    · refine zA_tableIn 152 dX2_ofSign_1 (by decide) (by decide) (off := 151) (by decide) (by decide) ?_
      refine zA_iconst (nI 1) dX2_ofSign_152 ic_1 ?_
      exact zB_iret rfl dX2_ofSign_153 (⟨by decide, rfl, rfl, rfl⟩)
    · refine zA_tableIn 152 dX2_ofSign_1 (by decide) (by decide) (off := 151) (by decide) (by decide) ?_
      refine zA_iconst (nI 1) dX2_ofSign_152 ic_1 ?_
      exact zB_iret rfl dX2_ofSign_153 (⟨by decide, rfl, rfl, rfl⟩)
    · refine zA_tableIn 152 dX2_ofSign_1 (by decide) (by decide) (off := 151) (by decide) (by decide) ?_
      refine zA_iconst (nI 1) dX2_ofSign_152 ic_1 ?_
      exact zB_iret rfl dX2_ofSign_153 (⟨by decide, rfl, rfl, rfl⟩)
    · refine zA_tableIn 152 dX2_ofSign_1 (by decide) (by decide) (off := 151) (by decide) (by decide) ?_
      refine zA_iconst (nI 1) dX2_ofSign_152 ic_1 ?_
      exact zB_iret rfl dX2_ofSign_153 (⟨by decide, rfl, rfl, rfl⟩)
    · refine zA_tableIn 152 dX2_ofSign_1 (by decide) (by decide) (off := 151) (by decide) (by decide) ?_
      refine zA_iconst (nI 1) dX2_ofSign_152 ic_1 ?_
      exact zB_iret rfl dX2_ofSign_153 (⟨by decide, rfl, rfl, rfl⟩)
    · refine zA_tableIn 152 dX2_ofSign_1 (by decide) (by decide) (off := 151) (by decide) (by decide) ?_
      refine zA_iconst (nI 1) dX2_ofSign_152 ic_1 ?_
      exact zB_iret rfl dX2_ofSign_153 (⟨by decide, rfl, rfl, rfl⟩)
    · refine zA_tableIn 152 dX2_ofSign_1 (by decide) (by decide) (off := 151) (by decide) (by decide) ?_
      refine zA_iconst (nI 1) dX2_ofSign_152 ic_1 ?_
      exact zB_iret rfl dX2_ofSign_153 (⟨by decide, rfl, rfl, rfl⟩)
    · refine zA_tableIn 120 dX2_ofSign_1 (by decide) (by decide) (off := 119) (by decide) (by decide) ?_
      refine zA_iconst (nI 5) dX2_ofSign_120 ic_5 ?_
      exact zB_iret rfl dX2_ofSign_121 (⟨by decide, rfl, rfl, rfl⟩)
    · refine zA_tableIn 128 dX2_ofSign_1 (by decide) (by decide) (off := 127) (by decide) (by decide) ?_
      refine zA_bipush (nI 11) dX2_ofSign_128 bc_11 ?_
      exact zB_iret rfl dX2_ofSign_130 (⟨by decide, rfl, rfl, rfl⟩)
    · refine zA_tableIn 131 dX2_ofSign_1 (by decide) (by decide) (off := 130) (by decide) (by decide) ?_
      refine zA_bipush (nI 13) dX2_ofSign_131 bc_13 ?_
      exact zB_iret rfl dX2_ofSign_133 (⟨by decide, rfl, rfl, rfl⟩)
    · refine zA_tableIn 134 dX2_ofSign_1 (by decide) (by decide) (off := 133) (by decide) (by decide) ?_
      refine zA_bipush (nI 16) dX2_ofSign_134 bc_16 ?_
      exact zB_iret rfl dX2_ofSign_136 (⟨by decide, rfl, rfl, rfl⟩)
theorem ct_isLetter (g : zm_G) (gi : zm_I) (gl : zm_J) (r : Nat) {i : Nat} (hi : i < 500)  : zC_i g yX9_isLetter mX9_isLetter 0 [.ref 50, .int (nI i)] zSH gi gl (zRT r) (fun z gi' gl' gr' => z = zb (fLet (gi 1 i)) ∧ gi' = gi ∧ gl' = gl ∧ gr' = zRT r) := by
  refine zC_i_of [some (.ref 50), some (.int (nI i))] (by decide) rfl rfl (Nat.le_of_ble_eq_true rfl) (fun x => ?_)
  refine zA_aload_0 dX9_isLetter_0 ?_
  refine zA_getR sh_50 fX9_9 dX9_isLetter_1 rfl (rt_50_0 _) ?_
  refine zA_iload_1 dX9_isLetter_4 ?_
  refine zA_bald (v := (gi 1 i)) i sh_1 dX9_isLetter_5 rfl (by omega) (by decide) rfl ?_
  refine zA_bipush (nI 97) dX9_isLetter_6 bc_97 ?_
  refine zA_icmp_lt 26 dX9_isLetter_8 (by decide) (fun h0 => ?_) (fun h0 => ?_)
  · refine zA_iconst (nI 0) dX9_isLetter_26 ic_0 ?_
    exact zB_zret rfl dX9_isLetter_27 (by decide) (⟨(zb_f (fun q => q.1 h0)).symm, rfl, rfl, rfl⟩)
  · refine zA_aload_0 dX9_isLetter_11 ?_
    refine zA_getR sh_50 fX9_9 dX9_isLetter_12 rfl (rt_50_0 _) ?_
    refine zA_iload_1 dX9_isLetter_15 ?_
    refine zA_bald (v := (gi 1 i)) i sh_1 dX9_isLetter_16 rfl (by omega) (by decide) rfl ?_
    refine zA_bipush (nI 122) dX9_isLetter_17 bc_122 ?_
    refine zA_icmp_gt 26 dX9_isLetter_19 (by decide) (fun h1 => ?_) (fun h1 => ?_)
    · refine zA_iconst (nI 0) dX9_isLetter_26 ic_0 ?_
      exact zB_zret rfl dX9_isLetter_27 (by decide) (⟨(zb_f (fun q => q.2 h1)).symm, rfl, rfl, rfl⟩)
    · refine zA_iconst (nI 1) dX9_isLetter_22 ic_1 ?_
      refine zA_goto 27 dX9_isLetter_23 (by decide) ?_
      exact zB_zret rfl dX9_isLetter_27 (by decide) (⟨(zb_t ⟨h0, h1⟩).symm, rfl, rfl, rfl⟩)
theorem ct_isDigit (g : zm_G) (gi : zm_I) (gl : zm_J) (r : Nat) {i : Nat} (hi : i < 500)  : zC_i g yX9_isDigit mX9_isDigit 0 [.ref 50, .int (nI i)] zSH gi gl (zRT r) (fun z gi' gl' gr' => z = zb (fDig (gi 1 i)) ∧ gi' = gi ∧ gl' = gl ∧ gr' = zRT r) := by
  refine zC_i_of [some (.ref 50), some (.int (nI i))] (by decide) rfl rfl (Nat.le_of_ble_eq_true rfl) (fun x => ?_)
  refine zA_aload_0 dX9_isDigit_0 ?_
  refine zA_getR sh_50 fX9_9 dX9_isDigit_1 rfl (rt_50_0 _) ?_
  refine zA_iload_1 dX9_isDigit_4 ?_
  refine zA_bald (v := (gi 1 i)) i sh_1 dX9_isDigit_5 rfl (by omega) (by decide) rfl ?_
  refine zA_bipush (nI 48) dX9_isDigit_6 bc_48 ?_
  refine zA_icmp_lt 26 dX9_isDigit_8 (by decide) (fun h0 => ?_) (fun h0 => ?_)
  · refine zA_iconst (nI 0) dX9_isDigit_26 ic_0 ?_
    exact zB_zret rfl dX9_isDigit_27 (by decide) (⟨(zb_f (fun q => q.1 h0)).symm, rfl, rfl, rfl⟩)
  · refine zA_aload_0 dX9_isDigit_11 ?_
    refine zA_getR sh_50 fX9_9 dX9_isDigit_12 rfl (rt_50_0 _) ?_
    refine zA_iload_1 dX9_isDigit_15 ?_
    refine zA_bald (v := (gi 1 i)) i sh_1 dX9_isDigit_16 rfl (by omega) (by decide) rfl ?_
    refine zA_bipush (nI 57) dX9_isDigit_17 bc_57 ?_
    refine zA_icmp_gt 26 dX9_isDigit_19 (by decide) (fun h1 => ?_) (fun h1 => ?_)
    · refine zA_iconst (nI 0) dX9_isDigit_26 ic_0 ?_
      exact zB_zret rfl dX9_isDigit_27 (by decide) (⟨(zb_f (fun q => q.2 h1)).symm, rfl, rfl, rfl⟩)
    · refine zA_iconst (nI 1) dX9_isDigit_22 ic_1 ?_
      refine zA_goto 27 dX9_isDigit_23 (by decide) ?_
      exact zB_zret rfl dX9_isDigit_27 (by decide) (⟨(zb_t ⟨h0, h1⟩).symm, rfl, rfl, rfl⟩)
theorem ct_start (g : zm_G) (gi : zm_I) (gl : zm_J) (r : Nat) (n : Int32)  : zC_v g yX9_start mX9_start 1 [.ref 50, .int n] zSH gi gl (zRT r) (fun gi' gl' gr' => gi' = zs (zs gi 50 1 (zmin n (nI 500))) 50 3 (nI 0) ∧ gl' = gl ∧ gr' = zRT r) := by
  refine zC_v_of [some (.ref 50), some (.int n)] (by decide) rfl rfl (Nat.le_of_ble_eq_true rfl) (fun x => ?_)
  refine zA_aload_0 dX9_start_0 ?_
  refine zA_iload_1 dX9_start_1 ?_
  refine zA_aload_0 dX9_start_2 ?_
  refine zA_getR sh_50 fX9_9 dX9_start_3 rfl (rt_50_0 _) ?_
  refine zA_alen 1 sh_1 (fun _ => rfl) dX9_start_6 rfl ?_
  refine zA_cSi (ct_min g _ _ _ n (nI 500)) calJ9_min_7cf53 stJ9_min_7cf53 lX9_15 dX9_start_7 (by decide) (by simp [Value.category]) rfl (Nat.le_refl _) (Nat.le_refl _) (fun zz gi' gl' gr' ⟨hz, q1, q2, q3⟩ => ?_)
  rw [hz, q1, q2, q3]
  clear hz q1 q2 q3
  refine zS_putI sh_50 fX9_21 dX9_start_10 rfl rfl ?_
  refine zA_aload_0 dX9_start_13 ?_
  refine zA_iconst (nI 0) dX9_start_14 ic_0 ?_
  refine zS_putI sh_50 fX9_25 dX9_start_15 rfl rfl ?_
  exact zB_vret rfl dX9_start_18 (⟨rfl, rfl, rfl⟩)
theorem ct_readWord (g : zm_G) (gi : zm_I) (gl : zm_J) (r : Nat) {n i : Nat} (hn : gi 50 1 = nI n) (hn5 : n ≤ 500) (hin : i ≤ n) (b k v : Int32)  : zC_v g yX9_readWord mX9_readWord 1 [.ref 50] zSH (fTk gi b (nI i) k v) gl (zRT r) (fun gi' gl' gr' => gi' = fTk gi b (nI (fWrd (gi 1) (n - i) i)) (nI 2) v ∧ gl' = gl ∧ gr' = zRT r) := by
  refine zC_v_of [some (.ref 50)] (by decide) rfl rfl (Nat.le_of_ble_eq_true rfl) (fun x => ?_)
  refine zA_aload_0 dX9_readWord_0 ?_
  refine zA_iconst (nI 2) dX9_readWord_1 ic_2 ?_
  refine zS_putI sh_50 fX9_36 dX9_readWord_2 rfl rfl ?_
  rw [fTk_4]
  generalize he : fWrd (gi 1) (n - i) i = e
  have key : ∀ (m i : Nat), i + m = n → fWrd (gi 1) m i = e → zB_v x g mX9_readWord 1 zSH (fun gi' gl' gr' => gi' = fTk gi b (nI e) (nI 2) v ∧ gl' = gl ∧ gr' = zRT r) 5 [some (.ref 50)] [] (fTk gi b (nI i) (nI 2) v) gl (zRT r) := by
    intro m
    induction m with
    | zero =>
      intro i hi hv
      refine zA_aload_0 dX9_readWord_5 ?_
      refine zA_getI (v := (nI i)) sh_50 fX9_25 dX9_readWord_6 rfl rfl ?_
      refine zA_aload_0 dX9_readWord_9 ?_
      refine zA_getI (v := (nI n)) sh_50 fX9_21 dX9_readWord_10 rfl hn ?_
      refine zA_icmp_geN 40 dX9_readWord_13 (by decide) (by omega) (by omega) (fun h => ?_) (fun h => ?_)
      · have hv2 : i = e := hv
        rw [hv2]
        exact zB_vret rfl dX9_readWord_40 (⟨rfl, rfl, rfl⟩)
      · exact absurd h (by omega)
    | succ m ih =>
      intro i hi hv
      refine zA_aload_0 dX9_readWord_5 ?_
      refine zA_getI (v := (nI i)) sh_50 fX9_25 dX9_readWord_6 rfl rfl ?_
      refine zA_aload_0 dX9_readWord_9 ?_
      refine zA_getI (v := (nI n)) sh_50 fX9_21 dX9_readWord_10 rfl hn ?_
      refine zA_icmp_geN 40 dX9_readWord_13 (by decide) (by omega) (by omega) (fun h => ?_) (fun h => ?_)
      · exact absurd h (by omega)
      · refine zA_aload_0 dX9_readWord_16 ?_
        refine zA_aload_0 dX9_readWord_17 ?_
        refine zA_getI (v := (nI i)) sh_50 fX9_25 dX9_readWord_18 rfl rfl ?_
        refine zA_cVi (ct_isLetter g _ _ _ (i := i) (by omega)) calX9_isLetter stX9_isLetter lX9_39 dX9_readWord_21 (by decide) (by simp [Value.category]) rfl (Nat.le_refl _) (Nat.le_refl _) sh_50 rfl (fun zz gi' gl' gr' ⟨hz, q1, q2, q3⟩ => ?_)
        rw [hz, q1, q2, q3]
        clear hz q1 q2 q3
        refine zA_if_eqB 40 dX9_readWord_24 (by decide) (fun c => ?_) (fun c => ?_)
        · have hv2 : i = e := (if_neg c).symm.trans hv
          rw [hv2]
          exact zB_vret rfl dX9_readWord_40 (⟨rfl, rfl, rfl⟩)
        · refine zA_aload_0 dX9_readWord_27 ?_
          refine zA_dup dX9_readWord_28 rfl ?_
          refine zA_getI (v := (nI i)) sh_50 fX9_25 dX9_readWord_29 rfl rfl ?_
          refine zA_iconst (nI 1) dX9_readWord_32 ic_1 ?_
          refine zA_iaddN dX9_readWord_33 ?_
          refine zS_putI sh_50 fX9_25 dX9_readWord_34 rfl rfl ?_
          refine zA_goto 5 dX9_readWord_37 (by decide) ?_
          rw [fTk_3]
          exact ih (i + 1) (by omega) ((if_pos c).symm.trans hv)
  exact key (n - i) i (by omega) he
theorem ct_readNumber (g : zm_G) (gi : zm_I) (gl : zm_J) (r : Nat) {n i : Nat} (hn : gi 50 1 = nI n) (hn5 : n ≤ 500) (hin : i ≤ n) (b k v : Int32)  : zC_v g yX9_readNumber mX9_readNumber 1 [.ref 50] zSH (fTk gi b (nI i) k v) gl (zRT r) (fun gi' gl' gr' => gi' = fTk gi b (nI (fNum (gi 1) (n - i) i v).1) (nI 3) (fNum (gi 1) (n - i) i v).2 ∧ gl' = gl ∧ gr' = zRT r) := by
  refine zC_v_of [some (.ref 50)] (by decide) rfl rfl (Nat.le_of_ble_eq_true rfl) (fun x => ?_)
  refine zA_aload_0 dX9_readNumber_0 ?_
  refine zA_iconst (nI 3) dX9_readNumber_1 ic_3 ?_
  refine zS_putI sh_50 fX9_36 dX9_readNumber_2 rfl rfl ?_
  rw [fTk_4]
  generalize he : fNum (gi 1) (n - i) i v = e
  have key : ∀ (m i : Nat) (v : Int32), i + m = n → fNum (gi 1) m i v = e → zB_v x g mX9_readNumber 1 zSH (fun gi' gl' gr' => gi' = fTk gi b (nI e.1) (nI 3) e.2 ∧ gl' = gl ∧ gr' = zRT r) 5 [some (.ref 50)] [] (fTk gi b (nI i) (nI 3) v) gl (zRT r) := by
    intro m
    induction m with
    | zero =>
      intro i v hi hv
      refine zA_aload_0 dX9_readNumber_5 ?_
      refine zA_getI (v := (nI i)) sh_50 fX9_25 dX9_readNumber_6 rfl rfl ?_
      refine zA_aload_0 dX9_readNumber_9 ?_
      refine zA_getI (v := (nI n)) sh_50 fX9_21 dX9_readNumber_10 rfl hn ?_
      refine zA_icmp_geN 69 dX9_readNumber_13 (by decide) (by omega) (by omega) (fun h => ?_) (fun h => ?_)
      · have hv2 : (i, v) = e := hv
        rw [← hv2]
        exact zB_vret rfl dX9_readNumber_69 (⟨rfl, rfl, rfl⟩)
      · exact absurd h (by omega)
    | succ m ih =>
      intro i v hi hv
      refine zA_aload_0 dX9_readNumber_5 ?_
      refine zA_getI (v := (nI i)) sh_50 fX9_25 dX9_readNumber_6 rfl rfl ?_
      refine zA_aload_0 dX9_readNumber_9 ?_
      refine zA_getI (v := (nI n)) sh_50 fX9_21 dX9_readNumber_10 rfl hn ?_
      refine zA_icmp_geN 69 dX9_readNumber_13 (by decide) (by omega) (by omega) (fun h => ?_) (fun h => ?_)
      · exact absurd h (by omega)
      · refine zA_aload_0 dX9_readNumber_16 ?_
        refine zA_aload_0 dX9_readNumber_17 ?_
        refine zA_getI (v := (nI i)) sh_50 fX9_25 dX9_readNumber_18 rfl rfl ?_
        refine zA_cVi (ct_isDigit g _ _ _ (i := i) (by omega)) calX9_isDigit stX9_isDigit lX9_46 dX9_readNumber_21 (by decide) (by simp [Value.category]) rfl (Nat.le_refl _) (Nat.le_refl _) sh_50 rfl (fun zz gi' gl' gr' ⟨hz, q1, q2, q3⟩ => ?_)
        rw [hz, q1, q2, q3]
        clear hz q1 q2 q3
        refine zA_if_eqB 69 dX9_readNumber_24 (by decide) (fun c => ?_) (fun c => ?_)
        · have hv2 : (i, v) = e := (if_neg c).symm.trans hv
          rw [← hv2]
          exact zB_vret rfl dX9_readNumber_69 (⟨rfl, rfl, rfl⟩)
        · refine zA_aload_0 dX9_readNumber_27 ?_
          refine zA_aload_0 dX9_readNumber_28 ?_
          refine zA_getI (v := v) sh_50 fX9_31 dX9_readNumber_29 rfl rfl ?_
          refine zA_bipush (nI 10) dX9_readNumber_32 bc_10 ?_
          refine zA_imul dX9_readNumber_34 ?_
          refine zA_aload_0 dX9_readNumber_35 ?_
          refine zA_getR sh_50 fX9_9 dX9_readNumber_36 rfl (rt_50_0 _) ?_
          refine zA_aload_0 dX9_readNumber_39 ?_
          refine zA_getI (v := (nI i)) sh_50 fX9_25 dX9_readNumber_40 rfl rfl ?_
          refine zA_bald (v := (gi 1 i)) i sh_1 dX9_readNumber_43 rfl (by omega) (by decide) rfl ?_
          refine zA_iadd dX9_readNumber_44 ?_
          refine zA_bipush (nI 48) dX9_readNumber_45 bc_48 ?_
          refine zA_isub dX9_readNumber_47 ?_
          refine zA_ldc kX9_55 dX9_readNumber_48 ?_
          refine zA_topi (b := nI 1000000) (by decide) ?_
          refine zA_cSi (ct_min g _ _ _ (v * nI 10 + gi 1 i - nI 48) (nI 1000000)) calJ9_min_7cf53 stJ9_min_7cf53 lX9_15 dX9_readNumber_50 (by decide) (by simp [Value.category]) rfl (Nat.le_refl _) (Nat.le_refl _) (fun zz gi' gl' gr' ⟨hz, q1, q2, q3⟩ => ?_)
          rw [hz, q1, q2, q3]
          clear hz q1 q2 q3
          refine zS_putI sh_50 fX9_31 dX9_readNumber_53 rfl rfl ?_
          rw [fTk_5]
          refine zA_aload_0 dX9_readNumber_56 ?_
          refine zA_dup dX9_readNumber_57 rfl ?_
          refine zA_getI (v := (nI i)) sh_50 fX9_25 dX9_readNumber_58 rfl rfl ?_
          refine zA_iconst (nI 1) dX9_readNumber_61 ic_1 ?_
          refine zA_iaddN dX9_readNumber_62 ?_
          refine zS_putI sh_50 fX9_25 dX9_readNumber_63 rfl rfl ?_
          refine zA_goto 5 dX9_readNumber_66 (by decide) ?_
          rw [fTk_3]
          exact ih (i + 1) _ (by omega) ((if_pos c).symm.trans hv)
  exact key (n - i) i v (by omega) he
theorem ct_readSign (g : zm_G) (gi : zm_I) (gl : zm_J) (r : Nat) {n i : Nat} (hn : gi 50 1 = nI n) (hn5 : n ≤ 500) (hin : i < n) (b k v : Int32)  : zC_v g yX9_readSign mX9_readSign 1 [.ref 50] zSH (fTk gi b (nI i) k v) gl (zRT r) (fun gi' gl' gr' => gi' = fTk gi b (nI (fSig (gi 1) n i).1) (fSig (gi 1) n i).2 v ∧ gl' = gl ∧ gr' = zRT r) := by
  refine zC_v_of [some (.ref 50)] (by decide) rfl rfl (Nat.le_of_ble_eq_true rfl) (fun x => ?_)
  refine zA_aload_0 dX9_readSign_0 ?_
  refine zA_aload_0 dX9_readSign_1 ?_
  refine zA_getR sh_50 fX9_9 dX9_readSign_2 rfl (rt_50_0 _) ?_
  refine zA_aload_0 dX9_readSign_5 ?_
  refine zA_getI (v := (nI i)) sh_50 fX9_25 dX9_readSign_6 rfl rfl ?_
  refine zA_bald (v := (gi 1 i)) i sh_1 dX9_readSign_9 rfl (by omega) (by decide) rfl ?_
  refine zA_cSi (ct_ofSign g _ _ _ (gi 1 i)) calX2_ofSign stX2_ofSign lX9_56 dX9_readSign_10 (by decide) (by simp [Value.category]) rfl (Nat.le_refl _) (Nat.le_refl _) (fun zz gi' gl' gr' ⟨hz, q1, q2, q3⟩ => ?_)
  rw [hz, q1, q2, q3]
  clear hz q1 q2 q3
  refine zS_putI sh_50 fX9_36 dX9_readSign_13 rfl rfl ?_
  rw [fTk_4]
  refine zA_aload_0 dX9_readSign_16 ?_
  refine zA_dup dX9_readSign_17 rfl ?_
  refine zA_getI (v := (nI i)) sh_50 fX9_25 dX9_readSign_18 rfl rfl ?_
  refine zA_iconst (nI 1) dX9_readSign_21 ic_1 ?_
  refine zA_iaddN dX9_readSign_22 ?_
  refine zS_putI sh_50 fX9_25 dX9_readSign_23 rfl rfl ?_
  rw [fTk_3]
  refine zA_aload_0 dX9_readSign_26 ?_
  refine zA_getI (v := (nI (i + 1))) sh_50 fX9_25 dX9_readSign_27 rfl rfl ?_
  refine zA_aload_0 dX9_readSign_30 ?_
  refine zA_getI (v := (nI n)) sh_50 fX9_21 dX9_readSign_31 rfl hn ?_
  refine zA_icmp_geN 55 dX9_readSign_34 (by decide) (by omega) (by omega) (fun h => ?_) (fun h => ?_)
  · have e9 : fSig (gi 1) n i = (i + 1, fSgn (gi 1 i)) := by unfold fSig; rw [if_pos (Or.inl h)]
    rw [e9]
    exact zB_vret rfl dX9_readSign_55 (⟨rfl, rfl, rfl⟩)
  · refine zA_aload_0 dX9_readSign_37 ?_
    refine zA_getI (v := (fSgn (gi 1 i))) sh_50 fX9_36 dX9_readSign_38 rfl rfl ?_
    refine zA_bipush (nI 11) dX9_readSign_41 bc_11 ?_
    refine zA_icmp_eq 56 dX9_readSign_43 (by decide) (fun c => ?_) (fun c => ?_)
    · have hN : ¬ (n ≤ i + 1 ∨ (¬ fSgn (gi 1 i) = nI 11 ∧ ¬ fSgn (gi 1 i) = nI 16)) := fun q => q.elim (fun q => absurd q (by omega)) (fun q => q.1 c)
      refine zA_aload_0 dX9_readSign_56 ?_
      refine zA_getR sh_50 fX9_9 dX9_readSign_57 rfl (rt_50_0 _) ?_
      refine zA_aload_0 dX9_readSign_60 ?_
      refine zA_getI (v := (nI (i + 1))) sh_50 fX9_25 dX9_readSign_61 rfl rfl ?_
      refine zA_bald (v := (gi 1 (i + 1))) (i + 1) sh_1 dX9_readSign_64 rfl (by omega) (by decide) rfl ?_
      refine zA_bipush (nI 61) dX9_readSign_65 bc_61 ?_
      refine zA_icmp_ne 103 dX9_readSign_67 (by decide) (fun d1 => ?_) (fun d1 => ?_)
      · refine zA_aload_0 dX9_readSign_103 ?_
        refine zA_getR sh_50 fX9_9 dX9_readSign_104 rfl (rt_50_0 _) ?_
        refine zA_aload_0 dX9_readSign_107 ?_
        refine zA_getI (v := (nI (i + 1))) sh_50 fX9_25 dX9_readSign_108 rfl rfl ?_
        refine zA_bald (v := (gi 1 (i + 1))) (i + 1) sh_1 dX9_readSign_111 rfl (by omega) (by decide) rfl ?_
        refine zA_bipush (nI 62) dX9_readSign_112 bc_62 ?_
        refine zA_icmp_ne 142 dX9_readSign_114 (by decide) (fun d2 => ?_) (fun d2 => ?_)
        · have e9 : fSig (gi 1) n i = (i + 1, fSgn (gi 1 i)) := by unfold fSig; rw [if_neg hN, if_neg d1, if_neg (fun q => d2 q.1)]
          rw [e9]
          exact zB_vret rfl dX9_readSign_142 (⟨rfl, rfl, rfl⟩)
        · refine zA_aload_0 dX9_readSign_117 ?_
          refine zA_getI (v := (fSgn (gi 1 i))) sh_50 fX9_36 dX9_readSign_118 rfl rfl ?_
          refine zA_bipush (nI 11) dX9_readSign_121 bc_11 ?_
          refine zA_icmp_ne 142 dX9_readSign_123 (by decide) (fun d3 => ?_) (fun d3 => ?_)
          · have e9 : fSig (gi 1) n i = (i + 1, fSgn (gi 1 i)) := by unfold fSig; rw [if_neg hN, if_neg d1, if_neg (fun q => d3 q.2)]
            rw [e9]
            exact zB_vret rfl dX9_readSign_142 (⟨rfl, rfl, rfl⟩)
          · refine zA_aload_0 dX9_readSign_126 ?_
            refine zA_bipush (nI 14) dX9_readSign_127 bc_14 ?_
            refine zS_putI sh_50 fX9_36 dX9_readSign_129 rfl rfl ?_
            rw [fTk_4]
            refine zA_aload_0 dX9_readSign_132 ?_
            refine zA_dup dX9_readSign_133 rfl ?_
            refine zA_getI (v := (nI (i + 1))) sh_50 fX9_25 dX9_readSign_134 rfl rfl ?_
            refine zA_iconst (nI 1) dX9_readSign_137 ic_1 ?_
            refine zA_iaddN dX9_readSign_138 ?_
            refine zS_putI sh_50 fX9_25 dX9_readSign_139 rfl rfl ?_
            rw [fTk_3]
            have e9 : fSig (gi 1) n i = (i + 2, nI 14) := by unfold fSig; rw [if_neg hN, if_neg d1, if_pos ⟨d2, d3⟩]
            rw [e9]
            exact zB_vret rfl dX9_readSign_142 (⟨rfl, rfl, rfl⟩)
      · refine zA_aload_0 dX9_readSign_70 ?_
        refine zA_aload_0 dX9_readSign_71 ?_
        refine zA_getI (v := (fSgn (gi 1 i))) sh_50 fX9_36 dX9_readSign_72 rfl rfl ?_
        refine zA_bipush (nI 11) dX9_readSign_75 bc_11 ?_
        refine zA_icmp_ne 85 dX9_readSign_77 (by decide) (fun d2 => ?_) (fun d2 => ?_)
        · refine zA_bipush (nI 15) dX9_readSign_85 bc_15 ?_
          refine zS_putI sh_50 fX9_36 dX9_readSign_87 rfl rfl ?_
          rw [fTk_4]
          refine zA_aload_0 dX9_readSign_90 ?_
          refine zA_dup dX9_readSign_91 rfl ?_
          refine zA_getI (v := (nI (i + 1))) sh_50 fX9_25 dX9_readSign_92 rfl rfl ?_
          refine zA_iconst (nI 1) dX9_readSign_95 ic_1 ?_
          refine zA_iaddN dX9_readSign_96 ?_
          refine zS_putI sh_50 fX9_25 dX9_readSign_97 rfl rfl ?_
          refine zA_goto 142 dX9_readSign_100 (by decide) ?_
          rw [fTk_3]
          have e9 : fSig (gi 1) n i = (i + 2, nI 15) := by unfold fSig; rw [if_neg hN, if_pos d1, if_neg d2]
          rw [e9]
          exact zB_vret rfl dX9_readSign_142 (⟨rfl, rfl, rfl⟩)
        · refine zA_bipush (nI 12) dX9_readSign_80 bc_12 ?_
          refine zA_goto 87 dX9_readSign_82 (by decide) ?_
          refine zS_putI sh_50 fX9_36 dX9_readSign_87 rfl rfl ?_
          rw [fTk_4]
          refine zA_aload_0 dX9_readSign_90 ?_
          refine zA_dup dX9_readSign_91 rfl ?_
          refine zA_getI (v := (nI (i + 1))) sh_50 fX9_25 dX9_readSign_92 rfl rfl ?_
          refine zA_iconst (nI 1) dX9_readSign_95 ic_1 ?_
          refine zA_iaddN dX9_readSign_96 ?_
          refine zS_putI sh_50 fX9_25 dX9_readSign_97 rfl rfl ?_
          refine zA_goto 142 dX9_readSign_100 (by decide) ?_
          rw [fTk_3]
          have e9 : fSig (gi 1) n i = (i + 2, nI 12) := by unfold fSig; rw [if_neg hN, if_pos d1, if_pos d2]
          rw [e9]
          exact zB_vret rfl dX9_readSign_142 (⟨rfl, rfl, rfl⟩)
    · refine zA_aload_0 dX9_readSign_46 ?_
      refine zA_getI (v := (fSgn (gi 1 i))) sh_50 fX9_36 dX9_readSign_47 rfl rfl ?_
      refine zA_bipush (nI 16) dX9_readSign_50 bc_16 ?_
      refine zA_icmp_eq 56 dX9_readSign_52 (by decide) (fun c2 => ?_) (fun c2 => ?_)
      · have hN : ¬ (n ≤ i + 1 ∨ (¬ fSgn (gi 1 i) = nI 11 ∧ ¬ fSgn (gi 1 i) = nI 16)) := fun q => q.elim (fun q => absurd q (by omega)) (fun q => q.2 c2)
        refine zA_aload_0 dX9_readSign_56 ?_
        refine zA_getR sh_50 fX9_9 dX9_readSign_57 rfl (rt_50_0 _) ?_
        refine zA_aload_0 dX9_readSign_60 ?_
        refine zA_getI (v := (nI (i + 1))) sh_50 fX9_25 dX9_readSign_61 rfl rfl ?_
        refine zA_bald (v := (gi 1 (i + 1))) (i + 1) sh_1 dX9_readSign_64 rfl (by omega) (by decide) rfl ?_
        refine zA_bipush (nI 61) dX9_readSign_65 bc_61 ?_
        refine zA_icmp_ne 103 dX9_readSign_67 (by decide) (fun d1 => ?_) (fun d1 => ?_)
        · refine zA_aload_0 dX9_readSign_103 ?_
          refine zA_getR sh_50 fX9_9 dX9_readSign_104 rfl (rt_50_0 _) ?_
          refine zA_aload_0 dX9_readSign_107 ?_
          refine zA_getI (v := (nI (i + 1))) sh_50 fX9_25 dX9_readSign_108 rfl rfl ?_
          refine zA_bald (v := (gi 1 (i + 1))) (i + 1) sh_1 dX9_readSign_111 rfl (by omega) (by decide) rfl ?_
          refine zA_bipush (nI 62) dX9_readSign_112 bc_62 ?_
          refine zA_icmp_ne 142 dX9_readSign_114 (by decide) (fun d2 => ?_) (fun d2 => ?_)
          · have e9 : fSig (gi 1) n i = (i + 1, fSgn (gi 1 i)) := by unfold fSig; rw [if_neg hN, if_neg d1, if_neg (fun q => d2 q.1)]
            rw [e9]
            exact zB_vret rfl dX9_readSign_142 (⟨rfl, rfl, rfl⟩)
          · refine zA_aload_0 dX9_readSign_117 ?_
            refine zA_getI (v := (fSgn (gi 1 i))) sh_50 fX9_36 dX9_readSign_118 rfl rfl ?_
            refine zA_bipush (nI 11) dX9_readSign_121 bc_11 ?_
            refine zA_icmp_ne 142 dX9_readSign_123 (by decide) (fun d3 => ?_) (fun d3 => ?_)
            · have e9 : fSig (gi 1) n i = (i + 1, fSgn (gi 1 i)) := by unfold fSig; rw [if_neg hN, if_neg d1, if_neg (fun q => d3 q.2)]
              rw [e9]
              exact zB_vret rfl dX9_readSign_142 (⟨rfl, rfl, rfl⟩)
            · refine zA_aload_0 dX9_readSign_126 ?_
              refine zA_bipush (nI 14) dX9_readSign_127 bc_14 ?_
              refine zS_putI sh_50 fX9_36 dX9_readSign_129 rfl rfl ?_
              rw [fTk_4]
              refine zA_aload_0 dX9_readSign_132 ?_
              refine zA_dup dX9_readSign_133 rfl ?_
              refine zA_getI (v := (nI (i + 1))) sh_50 fX9_25 dX9_readSign_134 rfl rfl ?_
              refine zA_iconst (nI 1) dX9_readSign_137 ic_1 ?_
              refine zA_iaddN dX9_readSign_138 ?_
              refine zS_putI sh_50 fX9_25 dX9_readSign_139 rfl rfl ?_
              rw [fTk_3]
              have e9 : fSig (gi 1) n i = (i + 2, nI 14) := by unfold fSig; rw [if_neg hN, if_neg d1, if_pos ⟨d2, d3⟩]
              rw [e9]
              exact zB_vret rfl dX9_readSign_142 (⟨rfl, rfl, rfl⟩)
        · refine zA_aload_0 dX9_readSign_70 ?_
          refine zA_aload_0 dX9_readSign_71 ?_
          refine zA_getI (v := (fSgn (gi 1 i))) sh_50 fX9_36 dX9_readSign_72 rfl rfl ?_
          refine zA_bipush (nI 11) dX9_readSign_75 bc_11 ?_
          refine zA_icmp_ne 85 dX9_readSign_77 (by decide) (fun d2 => ?_) (fun d2 => ?_)
          · refine zA_bipush (nI 15) dX9_readSign_85 bc_15 ?_
            refine zS_putI sh_50 fX9_36 dX9_readSign_87 rfl rfl ?_
            rw [fTk_4]
            refine zA_aload_0 dX9_readSign_90 ?_
            refine zA_dup dX9_readSign_91 rfl ?_
            refine zA_getI (v := (nI (i + 1))) sh_50 fX9_25 dX9_readSign_92 rfl rfl ?_
            refine zA_iconst (nI 1) dX9_readSign_95 ic_1 ?_
            refine zA_iaddN dX9_readSign_96 ?_
            refine zS_putI sh_50 fX9_25 dX9_readSign_97 rfl rfl ?_
            refine zA_goto 142 dX9_readSign_100 (by decide) ?_
            rw [fTk_3]
            have e9 : fSig (gi 1) n i = (i + 2, nI 15) := by unfold fSig; rw [if_neg hN, if_pos d1, if_neg d2]
            rw [e9]
            exact zB_vret rfl dX9_readSign_142 (⟨rfl, rfl, rfl⟩)
          · refine zA_bipush (nI 12) dX9_readSign_80 bc_12 ?_
            refine zA_goto 87 dX9_readSign_82 (by decide) ?_
            refine zS_putI sh_50 fX9_36 dX9_readSign_87 rfl rfl ?_
            rw [fTk_4]
            refine zA_aload_0 dX9_readSign_90 ?_
            refine zA_dup dX9_readSign_91 rfl ?_
            refine zA_getI (v := (nI (i + 1))) sh_50 fX9_25 dX9_readSign_92 rfl rfl ?_
            refine zA_iconst (nI 1) dX9_readSign_95 ic_1 ?_
            refine zA_iaddN dX9_readSign_96 ?_
            refine zS_putI sh_50 fX9_25 dX9_readSign_97 rfl rfl ?_
            refine zA_goto 142 dX9_readSign_100 (by decide) ?_
            rw [fTk_3]
            have e9 : fSig (gi 1) n i = (i + 2, nI 12) := by unfold fSig; rw [if_neg hN, if_pos d1, if_pos d2]
            rw [e9]
            exact zB_vret rfl dX9_readSign_142 (⟨rfl, rfl, rfl⟩)
      · have e9 : fSig (gi 1) n i = (i + 1, fSgn (gi 1 i)) := by unfold fSig; rw [if_pos (Or.inr ⟨c, c2⟩)]
        rw [e9]
        exact zB_vret rfl dX9_readSign_55 (⟨rfl, rfl, rfl⟩)
/-- from a place behind the blanks: where it ends, its kind, its value -/
def fTok (t : Nat → Int32) (n i : Nat) : Nat × Int32 × Int32 :=
  if n ≤ i then (i, nI 0, nI 0) else if fLet (t i) then (fWrd t (n - i) i, nI 2, nI 0) else if fDig (t i) then ((fNum t (n - i) i (nI 0)).1, nI 3, (fNum t (n - i) i (nI 0)).2) else ((fSig t n i).1, (fSig t n i).2, nI 0)
def fAdv (gi : zm_I) (n i : Nat) : zm_I :=
  fTk gi (nI (fSkp (gi 1) (n - i) i)) (nI (fTok (gi 1) n (fSkp (gi 1) (n - i) i)).1) (fTok (gi 1) n (fSkp (gi 1) (n - i) i)).2.1 (fTok (gi 1) n (fSkp (gi 1) (n - i) i)).2.2
theorem ct_advance (g : zm_G) (gi : zm_I) (gl : zm_J) (r : Nat) {n i : Nat} (hn : gi 50 1 = nI n) (hn5 : n ≤ 500) (hin : i ≤ n) (b k v : Int32)  : zC_v g yX9_advance mX9_advance 2 [.ref 50] zSH (fTk gi b (nI i) k v) gl (zRT r) (fun gi' gl' gr' => gi' = fAdv gi n i ∧ gl' = gl ∧ gr' = zRT r) := by
  refine zC_v_of [some (.ref 50)] (by decide) rfl rfl (Nat.le_of_ble_eq_true rfl) (fun x => ?_)
  unfold fAdv
  have hle := (fSkp_le (gi 1) (n - i) i).2
  generalize he : fSkp (gi 1) (n - i) i = e at hle ⊢
  have fin : zB_v x g mX9_advance 2 zSH (fun gi' gl' gr' => gi' = fTk gi (nI e) (nI (fTok (gi 1) n e).1) (fTok (gi 1) n e).2.1 (fTok (gi 1) n e).2.2 ∧ gl' = gl ∧ gr' = zRT r) 52 [some (.ref 50)] [] (fTk gi b (nI e) k v) gl (zRT r) := by
    have hen : e ≤ n := by omega
    refine zA_aload_0 dX9_advance_52 ?_
    refine zA_aload_0 dX9_advance_53 ?_
    refine zA_getI (v := (nI e)) sh_50 fX9_25 dX9_advance_54 rfl rfl ?_
    refine zS_putI sh_50 fX9_28 dX9_advance_57 rfl rfl ?_
    rw [fTk_2]
    refine zA_aload_0 dX9_advance_60 ?_
    refine zA_iconst (nI 0) dX9_advance_61 ic_0 ?_
    refine zS_putI sh_50 fX9_31 dX9_advance_62 rfl rfl ?_
    rw [fTk_5]
    refine zA_aload_0 dX9_advance_65 ?_
    refine zA_getI (v := (nI e)) sh_50 fX9_25 dX9_advance_66 rfl rfl ?_
    refine zA_aload_0 dX9_advance_69 ?_
    refine zA_getI (v := (nI n)) sh_50 fX9_21 dX9_advance_70 rfl hn ?_
    refine zA_icmp_ltN 84 dX9_advance_73 (by decide) (by omega) (by omega) (fun h => ?_) (fun h => ?_)
    · refine zA_aload_0 dX9_advance_84 ?_
      refine zA_aload_0 dX9_advance_85 ?_
      refine zA_getI (v := (nI e)) sh_50 fX9_25 dX9_advance_86 rfl rfl ?_
      refine zA_cVi (ct_isLetter g _ _ _ (i := e) (by omega)) calX9_isLetter stX9_isLetter lX9_39 dX9_advance_89 (by decide) (by simp [Value.category]) rfl (Nat.le_refl _) (Nat.le_refl _) sh_50 rfl (fun zz gi' gl' gr' ⟨hz, q1, q2, q3⟩ => ?_)
      rw [hz, q1, q2, q3]
      clear hz q1 q2 q3
      refine zA_if_eqB 102 dX9_advance_92 (by decide) (fun c => ?_) (fun c => ?_)
      · change ¬ fLet (gi 1 e) at c
        refine zA_aload_0 dX9_advance_102 ?_
        refine zA_aload_0 dX9_advance_103 ?_
        refine zA_getI (v := (nI e)) sh_50 fX9_25 dX9_advance_104 rfl rfl ?_
        refine zA_cVi (ct_isDigit g _ _ _ (i := e) (by omega)) calX9_isDigit stX9_isDigit lX9_46 dX9_advance_107 (by decide) (by simp [Value.category]) rfl (Nat.le_refl _) (Nat.le_refl _) sh_50 rfl (fun zz gi' gl' gr' ⟨hz, q1, q2, q3⟩ => ?_)
        rw [hz, q1, q2, q3]
        clear hz q1 q2 q3
        refine zA_if_eqB 120 dX9_advance_110 (by decide) (fun c2 => ?_) (fun c2 => ?_)
        · change ¬ fDig (gi 1 e) at c2
          refine zA_aload_0 dX9_advance_120 ?_
          refine zA_cVv (ct_readSign g gi gl r hn hn5 (i := e) (by omega) (nI e) k (nI 0)) calX9_readSign stX9_readSign lX9_52 dX9_advance_121 (by decide) (by simp [Value.category]) rfl (Nat.le_refl _) (Nat.le_refl _) sh_50 rfl (fun gi' gl' gr' ⟨q1, q2, q3⟩ => ?_)
          rw [q1, q2, q3]
          clear q1 q2 q3
          have e9 : fTok (gi 1) n e = ((fSig (gi 1) n e).1, (fSig (gi 1) n e).2, nI 0) := by unfold fTok; rw [if_neg (by omega), if_neg c, if_neg c2]
          rw [e9]
          exact zB_vret rfl dX9_advance_124 (⟨rfl, rfl, rfl⟩)
        · change fDig (gi 1 e) at c2
          refine zA_aload_0 dX9_advance_113 ?_
          refine zA_cVv (ct_readNumber g gi gl r hn hn5 (i := e) (by omega) (nI e) k (nI 0)) calX9_readNumber stX9_readNumber lX9_49 dX9_advance_114 (by decide) (by simp [Value.category]) rfl (Nat.le_refl _) (Nat.le_refl _) sh_50 rfl (fun gi' gl' gr' ⟨q1, q2, q3⟩ => ?_)
          rw [q1, q2, q3]
          clear q1 q2 q3
          have e9 : fTok (gi 1) n e = ((fNum (gi 1) (n - e) e (nI 0)).1, nI 3, (fNum (gi 1) (n - e) e (nI 0)).2) := by unfold fTok; rw [if_neg (by omega), if_neg c, if_pos c2]
          rw [e9]
          refine zA_goto 124 dX9_advance_117 (by decide) ?_
          exact zB_vret rfl dX9_advance_124 (⟨rfl, rfl, rfl⟩)
      · change fLet (gi 1 e) at c
        refine zA_aload_0 dX9_advance_95 ?_
        refine zA_cVv (ct_readWord g gi gl r hn hn5 (i := e) (by omega) (nI e) k (nI 0)) calX9_readWord stX9_readWord lX9_43 dX9_advance_96 (by decide) (by simp [Value.category]) rfl (Nat.le_refl _) (Nat.le_refl _) sh_50 rfl (fun gi' gl' gr' ⟨q1, q2, q3⟩ => ?_)
        rw [q1, q2, q3]
        clear q1 q2 q3
        have e9 : fTok (gi 1) n e = (fWrd (gi 1) (n - e) e, nI 2, nI 0) := by unfold fTok; rw [if_neg (by omega), if_pos c]
        rw [e9]
        refine zA_goto 124 dX9_advance_99 (by decide) ?_
        exact zB_vret rfl dX9_advance_124 (⟨rfl, rfl, rfl⟩)
    · refine zA_aload_0 dX9_advance_76 ?_
      refine zA_iconst (nI 0) dX9_advance_77 ic_0 ?_
      refine zS_putI sh_50 fX9_36 dX9_advance_78 rfl rfl ?_
      refine zA_goto 124 dX9_advance_81 (by decide) ?_
      rw [fTk_4]
      have e9 : fTok (gi 1) n e = (e, nI 0, nI 0) := by unfold fTok; rw [if_pos (by omega)]
      rw [e9]
      exact zB_vret rfl dX9_advance_124 (⟨rfl, rfl, rfl⟩)
  have key : ∀ (m i : Nat), i + m = n → fSkp (gi 1) m i = e → zB_v x g mX9_advance 2 zSH (fun gi' gl' gr' => gi' = fTk gi (nI e) (nI (fTok (gi 1) n e).1) (fTok (gi 1) n e).2.1 (fTok (gi 1) n e).2.2 ∧ gl' = gl ∧ gr' = zRT r) 0 [some (.ref 50)] [] (fTk gi b (nI i) k v) gl (zRT r) := by
    intro m
    induction m with
    | zero =>
      intro i hi hv
      refine zA_aload_0 dX9_advance_0 ?_
      refine zA_getI (v := (nI i)) sh_50 fX9_25 dX9_advance_1 rfl rfl ?_
      refine zA_aload_0 dX9_advance_4 ?_
      refine zA_getI (v := (nI n)) sh_50 fX9_21 dX9_advance_5 rfl hn ?_
      refine zA_icmp_geN 52 dX9_advance_8 (by decide) (by omega) (by omega) (fun h => ?_) (fun h => ?_)
      · have hv2 : i = e := hv
        rw [hv2]
        exact fin
      · exact absurd h (by omega)
    | succ m ih =>
      intro i hi hv
      refine zA_aload_0 dX9_advance_0 ?_
      refine zA_getI (v := (nI i)) sh_50 fX9_25 dX9_advance_1 rfl rfl ?_
      refine zA_aload_0 dX9_advance_4 ?_
      refine zA_getI (v := (nI n)) sh_50 fX9_21 dX9_advance_5 rfl hn ?_
      refine zA_icmp_geN 52 dX9_advance_8 (by decide) (by omega) (by omega) (fun h => ?_) (fun h => ?_)
      · exact absurd h (by omega)
      · refine zA_aload_0 dX9_advance_11 ?_
        refine zA_getR sh_50 fX9_9 dX9_advance_12 rfl (rt_50_0 _) ?_
        refine zA_aload_0 dX9_advance_15 ?_
        refine zA_getI (v := (nI i)) sh_50 fX9_25 dX9_advance_16 rfl rfl ?_
        refine zA_bald (v := (gi 1 i)) i sh_1 dX9_advance_19 rfl (by omega) (by decide) rfl ?_
        refine zA_bipush (nI 32) dX9_advance_20 bc_32 ?_
        refine zA_icmp_eq 39 dX9_advance_22 (by decide) (fun c => ?_) (fun c => ?_)
        · refine zA_aload_0 dX9_advance_39 ?_
          refine zA_dup dX9_advance_40 rfl ?_
          refine zA_getI (v := (nI i)) sh_50 fX9_25 dX9_advance_41 rfl rfl ?_
          refine zA_iconst (nI 1) dX9_advance_44 ic_1 ?_
          refine zA_iaddN dX9_advance_45 ?_
          refine zS_putI sh_50 fX9_25 dX9_advance_46 rfl rfl ?_
          refine zA_goto 0 dX9_advance_49 (by decide) ?_
          rw [fTk_3]
          exact ih (i + 1) (by omega) ((if_pos (Or.inl c)).symm.trans hv)
        · refine zA_aload_0 dX9_advance_25 ?_
          refine zA_getR sh_50 fX9_9 dX9_advance_26 rfl (rt_50_0 _) ?_
          refine zA_aload_0 dX9_advance_29 ?_
          refine zA_getI (v := (nI i)) sh_50 fX9_25 dX9_advance_30 rfl rfl ?_
          refine zA_bald (v := (gi 1 i)) i sh_1 dX9_advance_33 rfl (by omega) (by decide) rfl ?_
          refine zA_bipush (nI 10) dX9_advance_34 bc_10 ?_
          refine zA_icmp_ne 52 dX9_advance_36 (by decide) (fun c2 => ?_) (fun c2 => ?_)
          · have hv2 : i = e := (if_neg (fun q => q.elim c c2)).symm.trans hv
            rw [hv2]
            exact fin
          · refine zA_aload_0 dX9_advance_39 ?_
            refine zA_dup dX9_advance_40 rfl ?_
            refine zA_getI (v := (nI i)) sh_50 fX9_25 dX9_advance_41 rfl rfl ?_
            refine zA_iconst (nI 1) dX9_advance_44 ic_1 ?_
            refine zA_iaddN dX9_advance_45 ?_
            refine zS_putI sh_50 fX9_25 dX9_advance_46 rfl rfl ?_
            refine zA_goto 0 dX9_advance_49 (by decide) ?_
            rw [fTk_3]
            exact ih (i + 1) (by omega) ((if_pos (Or.inr c2)).symm.trans hv)
  exact key (n - i) i (by omega) he
