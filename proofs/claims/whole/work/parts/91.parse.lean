/-! ===== the readers: what stands in class and reference inside an expression ===== -/
def zKo (k : Nat) : Nat := if k = 7 then 100 else rKd k
def zWM (M : zm_I) : List (Nat × Nat) → Prop
  | [] => True
  | p :: W => M 49 W.length = nI p.1 ∧ zWM M W
def zWX (X : zm_I) : List (Nat × Nat) → Prop
  | [] => True
  | p :: W => X 117 W.length = nI (zKo p.1) ∧ (p.1 ≠ 7 → X 118 W.length = nI (64 + p.2)) ∧ zWX X W
def zOpn : List (Nat × Nat) → Nat
  | [] => 0
  | p :: W => zOpn W + (if p.1 = 7 then 1 else 0)
def zTws : List (Nat × Nat) → Nat
  | [] => 0
  | p :: W => zTws W + (if p.1 = 7 ∨ p.1 = 10 ∨ p.1 = 22 then 0 else 1)
def zHl (X : zm_I) : List Nat → Prop
  | [] => True
  | a :: S => X 119 S.length = nI (64 + a) ∧ zHl X S
def zDs : List (Nat × Nat) → Prop
  | [] => True
  | p :: W => (p.1 ≠ 7 → ∀ q ∈ W, q.1 ≠ 7 → q.2 ≠ p.2) ∧ zDs W
abbrev zKk (k : Nat) : Prop := k = 7 ∨ k = 10 ∨ k = 22 ∨ zTwo k
/-- a written knot of the draft -/
def zND (M X : zm_I) (l c a : Nat) (S S' : List Nat) : Prop :=
  a < 64 ∧ ¬ a ∈ S ∧ X 110 (64 + a) = nI (rKd (zi (M 44 c))) ∧
  ((M 44 c = nI 3 ∧ X 113 (64 + a) = M 45 c ∧ S' = a :: S) ∨
   (M 44 c = nI 4 ∧ X 113 (64 + a) = M 45 c ∧ zx (M 45 c) 11 ∧ (zi (M 45 c) = 10 → 2 ≤ l) ∧ S' = a :: S) ∨
   ((M 44 c = nI 10 ∨ M 44 c = nI 22) ∧ ∃ b R, S = b :: R ∧ b < 64 ∧ X 111 (64 + a) = nI (64 + b) ∧ S' = a :: R) ∨
   (∃ k, M 44 c = nI k ∧ zTwo k ∧ ∃ b d R, S = d :: b :: R ∧ b < 64 ∧ d < 64 ∧ X 111 (64 + a) = nI (64 + b) ∧ X 112 (64 + a) = nI (64 + d) ∧ S' = a :: R))
theorem zND_cg {M M' X X' : zm_I} {l c a : Nat} {S S' : List Nat} (h4 : M' 44 c = M 44 c) (h5 : M' 45 c = M 45 c) (x0 : X' 110 (64 + a) = X 110 (64 + a)) (x1 : X' 111 (64 + a) = X 111 (64 + a)) (x2 : X' 112 (64 + a) = X 112 (64 + a)) (x3 : X' 113 (64 + a) = X 113 (64 + a)) (h : zND M X l c a S S') : zND M' X' l c a S S' := by
  unfold zND at h ⊢
  rw [h4, h5, x0, x1, x2, x3]
  exact h
def zTD (M X : zm_I) (l s0 m : Nat) (dn : Nat → Nat) (S : List Nat) : Prop := ∃ st : Nat → List Nat, st 0 = [] ∧ st m = S ∧ ∀ i, i < m → zND M X l (s0 + i) (dn (s0 + i)) (st i) (st (i + 1))
theorem zTD_cg {M M' X X' : zm_I} {l s0 m : Nat} {dn : Nat → Nat} {S : List Nat} (h4 : ∀ c, c < s0 + m → M' 44 c = M 44 c ∧ M' 45 c = M 45 c) (hx : ∀ i, s0 ≤ i → i < s0 + m → X' 110 (64 + dn i) = X 110 (64 + dn i) ∧ X' 111 (64 + dn i) = X 111 (64 + dn i) ∧ X' 112 (64 + dn i) = X 112 (64 + dn i) ∧ X' 113 (64 + dn i) = X 113 (64 + dn i)) (h : zTD M X l s0 m dn S) : zTD M' X' l s0 m dn S := by
  obtain ⟨st, h1, h2, h3⟩ := h
  refine ⟨st, h1, h2, fun i hi => ?_⟩
  obtain ⟨a1, a2, a3, a4⟩ := hx (s0 + i) (by omega) (by omega)
  exact zND_cg (h4 (s0 + i) (by omega)).1 (h4 (s0 + i) (by omega)).2 a1 a2 a3 a4 (h3 i hi)
/-- a knot more is written -/
theorem zTD_more {M X : zm_I} {l s0 m a : Nat} {dn : Nat → Nat} {S S' : List Nat} (h : zTD M X l s0 m dn S) (hn : zND M X l (s0 + m) a S S') : zTD M X l s0 (m + 1) (fun i => if i = s0 + m then a else dn i) S' := by
  obtain ⟨st, h1, h2, h3⟩ := h
  refine ⟨fun i => if i = m + 1 then S' else st i, ?_, ?_, fun i hi => ?_⟩
  · show (if 0 = m + 1 then S' else st 0) = []
    rw [if_neg (by omega)]
    exact h1
  · show (if m + 1 = m + 1 then S' else st (m + 1)) = S'
    rw [if_pos rfl]
  · by_cases e : i = m
    · subst e
      show zND M X l (s0 + i) (if s0 + i = s0 + i then a else dn (s0 + i)) (if i = i + 1 then S' else st i) (if i + 1 = i + 1 then S' else st (i + 1))
      rw [if_pos rfl, if_neg (by omega), if_pos rfl, h2]
      exact hn
    · show zND M X l (s0 + i) (if s0 + i = s0 + m then a else dn (s0 + i)) (if i = m + 1 then S' else st i) (if i + 1 = m + 1 then S' else st (i + 1))
      rw [if_neg (by omega), if_neg (by omega), if_neg (by omega)]
      exact h3 i (by omega)
/-- the state inside an expression -/
def zPS (M X : zm_I) (l s0 wr kn kb : Nat) (W : List (Nat × Nat)) (S : List Nat) (dn : Nat → Nat) : Prop :=
  (M 42 3 = nI W.length ∧ X 87 51 = nI W.length ∧ zWM M W ∧ zWX X W ∧ ∀ p ∈ W, zKk p.1) ∧
  (M 42 5 = nI wr ∧ X 87 48 = nI wr ∧ s0 ≤ wr) ∧ (M 43 8 = nI kn ∧ X 87 47 = nI kn ∧ kn ≤ 64 ∧ kb ≤ kn) ∧
  (X 87 53 = nI S.length ∧ zHl X S ∧ zTD M X l s0 (wr - s0) dn S) ∧
  (∀ a ∈ S, a < kb) ∧ (∀ i, i < wr → X 114 (64 + i) = nI (64 + dn i) ∧ dn i < kb) ∧
  ((∀ p ∈ W, p.1 ≠ 7 → p.2 < kb ∧ ¬ p.2 ∈ S ∧ (∀ i, i < wr → dn i ≠ p.2) ∧ X 110 (64 + p.2) = nI (rKd p.1)) ∧ zDs W) ∧
  (W.length + wr = kb + zOpn W ∧ M 42 4 = nI (zOpn W) ∧ X 87 55 = nI (zOpn W) ∧ zOpn W ≤ 8)
theorem zOpn_le : ∀ W : List (Nat × Nat), zOpn W ≤ W.length
  | [] => Nat.le_refl _
  | p :: W => by
    have h := zOpn_le W
    show zOpn W + (if p.1 = 7 then 1 else 0) ≤ W.length + 1
    split <;> omega
theorem zWM_cg {M M' : zm_I} : ∀ W : List (Nat × Nat), (∀ j, j < W.length → M' 49 j = M 49 j) → zWM M W → zWM M' W
  | [], _, _ => trivial
  | p :: W, h, q => ⟨(h W.length (Nat.lt_succ_self _)).trans q.1, zWM_cg W (fun j hj => h j (Nat.lt_succ_of_lt hj)) q.2⟩
theorem zWX_cg {X X' : zm_I} : ∀ W : List (Nat × Nat), (∀ j, j < W.length → X' 117 j = X 117 j ∧ X' 118 j = X 118 j) → zWX X W → zWX X' W
  | [], _, _ => trivial
  | p :: W, h, q => ⟨(h W.length (Nat.lt_succ_self _)).1.trans q.1, fun z => (h W.length (Nat.lt_succ_self _)).2.trans (q.2.1 z), zWX_cg W (fun j hj => h j (Nat.lt_succ_of_lt hj)) q.2.2⟩
theorem zHl_cg {X X' : zm_I} : ∀ S : List Nat, (∀ j, j < S.length → X' 119 j = X 119 j) → zHl X S → zHl X' S
  | [], _, _ => trivial
  | a :: S, h, q => ⟨(h S.length (Nat.lt_succ_self _)).trans q.1, zHl_cg S (fun j hj => h j (Nat.lt_succ_of_lt hj)) q.2⟩
/-- the class writes a waiting kind -/
theorem fWwS_at {M : zm_I} {m wr : Nat} (h5 : M 42 5 = nI wr) (hw : wr < 64) : fWwS M m = zs (zs (zs (zs M 42 3 (nI m)) 44 wr (M 49 m)) 45 wr (nI 0)) 42 5 (nI (wr + 1)) := by
  have e : zs M 42 3 (nI m) 42 5 = nI wr := by rw [zs_nj (by decide)]; exact h5
  unfold fWwS fWr
  rw [e, zi_nI (by omega), if_pos hw]
/-- a waiting kind is written: what is left -/
theorem zPS_pop {M X X' : zm_I} {l s0 wr kn kb k b : Nat} {W : List (Nat × Nat)} {S R : List Nat} {dn : Nat → Nat} (hP : zPS M X l s0 wr kn kb ((k, b) :: W) S dn) (hk : k ≠ 7)
    (hR : ((k = 10 ∨ k = 22) ∧ ∃ c, S = c :: R ∧ X' 111 (64 + b) = nI (64 + c) ∧ X' 112 = X 112) ∨ (zTwo k ∧ ∃ c d, S = d :: c :: R ∧ X' 111 (64 + b) = nI (64 + c) ∧ X' 112 (64 + b) = nI (64 + d) ∧ ∀ j, j ≠ 64 + b → X' 112 j = X 112 j))
    (h110 : X' 110 = X 110) (h111 : ∀ j, j ≠ 64 + b → X' 111 j = X 111 j) (h113 : X' 113 = X 113) (h114 : ∀ j, X' 114 j = if j = 64 + wr then nI (64 + b) else X 114 j) (h117 : X' 117 = X 117) (h118 : X' 118 = X 118) (h119 : ∀ j, X' 119 j = if j = R.length then nI (64 + b) else X 119 j)
    (h87 : X' 87 51 = nI W.length ∧ X' 87 48 = nI (wr + 1) ∧ X' 87 47 = X 87 47 ∧ X' 87 53 = nI (R.length + 1) ∧ X' 87 55 = X 87 55) :
    zPS (fWwS M W.length) X' l s0 (wr + 1) kn kb W (b :: R) (fun i => if i = wr then b else dn i) ∧ wr < 64 := by
  obtain ⟨⟨a1, a2, a3, a4, a5⟩, ⟨b1, b2, b3⟩, ⟨c1, c2, c3, c4⟩, ⟨d1, d2, d3⟩, e1, e2, ⟨f1, f2⟩, g1, g2, g3, g4⟩ := hP
  obtain ⟨q1, q2, q3, hkb⟩ := f1 (k, b) List.mem_cons_self hk
  have q1' : b < kb := q1
  have hop : zOpn ((k, b) :: W) = zOpn W := by
    show zOpn W + (if k = 7 then 1 else 0) = zOpn W
    rw [if_neg hk]
    omega
  have hlen : ((k, b) :: W).length = W.length + 1 := rfl
  rw [hop] at g1 g2 g3 g4
  rw [hlen] at g1
  have hle := zOpn_le W
  have hwr : wr < 64 := by omega
  refine ⟨?_, hwr⟩
  rw [fWwS_at b1 hwr]
  have hk49 : M 49 W.length = nI k := a3.1
  have m44 : ∀ c, c ≠ wr → zs (zs (zs (zs M 42 3 (nI W.length)) 44 wr (M 49 W.length)) 45 wr (nI 0)) 42 5 (nI (wr + 1)) 44 c = M 44 c := fun c hc => by
    rw [zs_nq (by decide), zs_nq (by decide), zs_nj hc, zs_nq (by decide)]
  have m45 : ∀ c, c ≠ wr → zs (zs (zs (zs M 42 3 (nI W.length)) 44 wr (M 49 W.length)) 45 wr (nI 0)) 42 5 (nI (wr + 1)) 45 c = M 45 c := fun c hc => by
    rw [zs_nq (by decide), zs_nj hc, zs_nq (by decide), zs_nq (by decide)]
  have m44w : zs (zs (zs (zs M 42 3 (nI W.length)) 44 wr (M 49 W.length)) 45 wr (nI 0)) 42 5 (nI (wr + 1)) 44 wr = nI k := by
    rw [zs_nq (by decide), zs_nq (by decide), zs_eq]; exact hk49
  have m49 : zs (zs (zs (zs M 42 3 (nI W.length)) 44 wr (M 49 W.length)) 45 wr (nI 0)) 42 5 (nI (wr + 1)) 49 = M 49 := by
    rw [zs_nq (by decide), zs_nq (by decide), zs_nq (by decide), zs_nq (by decide)]
  have m42 : ∀ j, j ≠ 3 → j ≠ 5 → zs (zs (zs (zs M 42 3 (nI W.length)) 44 wr (M 49 W.length)) 45 wr (nI 0)) 42 5 (nI (wr + 1)) 42 j = M 42 j := fun j h1 h2 => by
    rw [zs_nj h2, zs_nq (by decide), zs_nq (by decide), zs_nj h1]
  have m423 : zs (zs (zs (zs M 42 3 (nI W.length)) 44 wr (M 49 W.length)) 45 wr (nI 0)) 42 5 (nI (wr + 1)) 42 3 = nI W.length := by
    rw [zs_nj (by decide), zs_nq (by decide), zs_nq (by decide), zs_eq]
  have m425 : zs (zs (zs (zs M 42 3 (nI W.length)) 44 wr (M 49 W.length)) 45 wr (nI 0)) 42 5 (nI (wr + 1)) 42 5 = nI (wr + 1) := zs_eq _ _ _ _
  have m43 : zs (zs (zs (zs M 42 3 (nI W.length)) 44 wr (M 49 W.length)) 45 wr (nI 0)) 42 5 (nI (wr + 1)) 43 = M 43 := by
    rw [zs_nq (by decide), zs_nq (by decide), zs_nq (by decide), zs_nq (by decide)]
  generalize zs (zs (zs (zs M 42 3 (nI W.length)) 44 wr (M 49 W.length)) 45 wr (nI 0)) 42 5 (nI (wr + 1)) = M' at *
  have hSn : ∀ x, x ∈ R → x ∈ S := fun x hx => by
    rcases hR with ⟨_, c, e, _⟩ | ⟨_, c, d, e, _⟩
    · rw [e]; exact List.mem_cons_of_mem _ hx
    · rw [e]; exact List.mem_cons_of_mem _ (List.mem_cons_of_mem _ hx)
  have hSl : R.length < S.length := by
    rcases hR with ⟨_, c, e, _⟩ | ⟨_, c, d, e, _⟩
    · rw [e]; exact Nat.lt_succ_self _
    · rw [e]; exact Nat.lt_succ_of_lt (Nat.lt_succ_self _)
  have hHR : zHl X R := by
    rcases hR with ⟨_, c, e, _⟩ | ⟨_, c, d, e, _⟩
    · rw [e] at d2; exact d2.2
    · rw [e] at d2; exact d2.2.2
  have h112 : ∀ j, j ≠ 64 + b → X' 112 j = X 112 j := by
    rcases hR with ⟨_, c, _, _, e⟩ | ⟨_, c, d, _, _, _, e⟩
    · intro j _; rw [e]
    · exact e
  have hT0 : zTD M' X' l s0 (wr - s0) dn S := zTD_cg (fun c hc => ⟨m44 c (by omega), m45 c (by omega)⟩) (fun i h1 h2 => by
    have hne : dn i ≠ b := q3 i (by omega)
    refine ⟨by rw [h110], h111 _ (by omega), h112 _ (by omega), by rw [h113]⟩) d3
  have hzk : rKd (zi (M' 44 wr)) = rKd k := by
    rw [m44w, zi_nI]
    rcases a5 (k, b) List.mem_cons_self with h | h | h | h
    · have h' : k = 7 := h
      omega
    · have h' : k = 10 := h
      omega
    · have h' : k = 22 := h
      omega
    · have h' : zTwo k := h
      omega
  have hnd : zND M' X' l (s0 + (wr - s0)) b S (b :: R) := by
    rw [show s0 + (wr - s0) = wr by omega]
    refine ⟨by omega, q2, by rw [h110, hzk]; exact hkb, ?_⟩
    rcases hR with ⟨hk1, c, e, x1, _⟩ | ⟨hk2, c, d, e, x1, x2, _⟩
    · refine Or.inr (Or.inr (Or.inl ⟨?_, c, R, e, ?_, x1, rfl⟩))
      · rcases hk1 with h | h
        · exact Or.inl (by rw [m44w, h])
        · exact Or.inr (by rw [m44w, h])
      · have := e1 c (by rw [e]; exact List.mem_cons_self)
        omega
    · refine Or.inr (Or.inr (Or.inr ⟨k, m44w, hk2, c, d, R, e, ?_, ?_, x1, x2, rfl⟩))
      · have := e1 c (by rw [e]; exact List.mem_cons_of_mem _ List.mem_cons_self)
        omega
      · have := e1 d (by rw [e]; exact List.mem_cons_self)
        omega
  have hT1 := zTD_more hT0 hnd
  rw [show wr - s0 + 1 = wr + 1 - s0 by omega, show s0 + (wr - s0) = wr by omega] at hT1
  refine ⟨⟨m423, h87.1, zWM_cg W (fun j _ => by rw [m49]) a3.2, zWX_cg W (fun j _ => by rw [h117, h118]; exact ⟨rfl, rfl⟩) a4.2.2, fun p hp => a5 p (List.mem_cons_of_mem _ hp)⟩, ⟨m425, h87.2.1, by omega⟩, ⟨by rw [m43]; exact c1, h87.2.2.1.trans c2, c3, c4⟩, ⟨h87.2.2.2.1, ⟨?_, ?_⟩, hT1⟩, fun a ha => ?_, fun i hi => ?_, ⟨fun p hp hp7 => ?_, f2.2⟩, by omega, by rw [m42 4 (by decide) (by decide)]; exact g2, h87.2.2.2.2.trans g3, g4⟩
  · rw [h119, if_pos rfl]
  · exact zHl_cg R (fun j hj => by rw [h119, if_neg (by omega)]) hHR
  · rcases List.mem_cons.mp ha with h | h
    · rw [h]; exact q1'
    · exact e1 a (hSn a h)
  · show X' 114 (64 + i) = nI (64 + (if i = wr then b else dn i)) ∧ (if i = wr then b else dn i) < kb
    rw [h114]
    by_cases c : i = wr
    · rw [if_pos (by omega), if_pos c]
      exact ⟨rfl, q1'⟩
    · rw [if_neg (by omega), if_neg c]
      exact e2 i (by omega)
  · obtain ⟨r1, r2, r3, r4⟩ := f1 p (List.mem_cons_of_mem _ hp) hp7
    have hpb : p.2 ≠ b := f2.1 hk p hp hp7
    refine ⟨r1, fun z => ?_, fun i hi => ?_, by rw [h110]; exact r4⟩
    · rcases List.mem_cons.mp z with h | h
      · exact hpb h
      · exact r2 (hSn _ h)
    · show (if i = wr then b else dn i) ≠ p.2
      split
      · exact Ne.symm hpb
      · exact r3 i (by omega)
