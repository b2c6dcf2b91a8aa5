def fSep (q : Nat) : Nat → Nat → Nat
  | 0, _ => 0
  | m + 1, i => (if i = zm_len.getD q 0 ∨ (zm_byt.getD q []).getD i 0 = nI 32 then 1 else 0) + fSep q m (i + 1)
theorem fWiL_rng (gi : zm_I) (q b e : Nat) : ∀ (m i num fr : Nat), fWiL gi q b e m i num fr = -1 ∨ ∃ j, num ≤ j ∧ j < num + fSep q m i ∧ fWiL gi q b e m i num fr = nI j
  | 0, _, _, _ => Or.inl rfl
  | m + 1, i, num, fr => by
    unfold fWiL fSep
    split
    · split
      · exact Or.inr ⟨num, Nat.le_refl _, by omega, rfl⟩
      · rcases fWiL_rng gi q b e m (i + 1) (num + 1) (i + 1) with h | ⟨j, h1, h2, h3⟩
        · exact Or.inl h
        · exact Or.inr ⟨j, by omega, by omega, h3⟩
    · rcases fWiL_rng gi q b e m (i + 1) num fr with h | ⟨j, h1, h2, h3⟩
      · exact Or.inl h
      · exact Or.inr ⟨j, h1, by omega, h3⟩
theorem fWi_0 (gi : zm_I) (b e : Nat) : fWi gi 0 b e = -1 ∨ ∃ j, j < 7 ∧ fWi gi 0 b e = nI j := by
  have hs : fSep 0 42 0 = 7 := by decide +kernel
  rcases fWiL_rng gi 0 b e 42 0 0 0 with h | ⟨j, h1, h2, h3⟩
  · exact Or.inl h
  · exact Or.inr ⟨j, by omega, h3⟩
theorem fWi_2 (gi : zm_I) (b e : Nat) : fWi gi 2 b e = -1 ∨ ∃ j, j < 11 ∧ fWi gi 2 b e = nI j := by
  have hs : fSep 2 66 0 = 11 := by decide +kernel
  rcases fWiL_rng gi 2 b e 66 0 0 0 with h | ⟨j, h1, h2, h3⟩
  · exact Or.inl h
  · exact Or.inr ⟨j, by omega, h3⟩
