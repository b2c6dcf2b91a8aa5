/-- what a line leaves alone -/
def zFrL (l : Nat) (X X' : zm_I) : Prop := (∀ a, a ≠ 87 → (a < 110 ∨ 120 < a) → X' a = X a) ∧ (∀ a j, 110 ≤ a → a ≤ 114 → j < 64 → X' a j = X a j) ∧ (∀ j, j ≠ 5 + l → X' 115 j = X 115 j ∧ X' 116 j = X 116 j) ∧ ∀ j, (j < 29 ∨ j = 31 ∨ (35 < j ∧ j < 47) ∨ 58 < j) → X' 87 j = X 87 j
/-- how an expression ends -/
def zEnd (n i l s0 : Nat) (dn : Nat → Nat) (M X : zm_I) (R : Bool × zm_I) (z : Int32) (X' : zm_I) : Prop :=
  zFrL l X X' ∧ ((R.1 = false ∧ z = nI 0 ∧ X' 87 29 = R.2 42 7 ∧ X' 87 30 = R.2 42 8) ∨
   (R.1 = false ∧ z = nI 1 ∧ ¬ (X' 87 33 = nI 3 ∧ X' 87 34 = nI 59) ∧ R.2 42 7 = nI 1 ∧ X' 87 35 = R.2 42 8) ∨
   (R.1 = true ∧ z = nI 1 ∧ (X' 87 33 = nI 3 ∧ X' 87 34 = nI 59) ∧ ∃ (i' nx wr' rt : Nat) (dn' : Nat → Nat), i ≤ i' ∧ i' < nx ∧ nx ≤ n ∧ (R.2 50 1 = nI n ∧ R.2 50 3 = nI nx ∧ X' 87 32 = nI nx ∧ R.2 1 = M 1) ∧ zPS R.2 X' l s0 wr' wr' wr' [] [rt] dn' ∧ zOld s0 dn M X dn' R.2 X' ∧ X' 115 (5 + l) = nI s0 ∧ X' 116 (5 + l) = nI (wr' - s0) ∧ R.2 46 l = nI s0 ∧ R.2 47 l = nI wr'))
