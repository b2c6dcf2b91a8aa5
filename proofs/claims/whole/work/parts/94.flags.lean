/-! ===== the readers: flags and the token at hand ===== -/
/-- a comparison waits with nothing below it in rank above it -/
def zHc : List (Nat × Nat) → Bool
  | [] => false
  | p :: W => if 17 ≤ p.1 then zHc W else decide (11 ≤ p.1)
def zCo (X : zm_I) : List (Nat × Nat) → Prop
  | [] => True
  | p :: W => (p.1 = 7 → X 120 (zOpn W) = zb (zHc W = true)) ∧ zCo X W
def zMn : List (Nat × Nat) → Bool
  | [] => true
  | p :: _ => decide (p.1 ≤ 10)
theorem zHc_lo {k b : Nat} {W : List (Nat × Nat)} (h : k < 11) : zHc ((k, b) :: W) = false := by
  show (if 17 ≤ k then zHc W else decide (11 ≤ k)) = false
  rw [if_neg (by omega), decide_eq_false (by omega)]
theorem zHc_cm {k b : Nat} {W : List (Nat × Nat)} (h : 11 ≤ k) (h2 : k < 17) : zHc ((k, b) :: W) = true := by
  show (if 17 ≤ k then zHc W else decide (11 ≤ k)) = true
  rw [if_neg (by omega), decide_eq_true h]
theorem zHc_hi {k b : Nat} {W : List (Nat × Nat)} (h : 17 ≤ k) : zHc ((k, b) :: W) = zHc W := if_pos h
theorem zHc_mn : ∀ {W : List (Nat × Nat)}, zMn W = true → zHc W = false
  | [], _ => rfl
  | (k, b) :: W, h => zHc_lo (by have := of_decide_eq_true h; omega)
theorem zCo_cg {X X' : zm_I} : ∀ W : List (Nat × Nat), (∀ j, j < zOpn W → X' 120 j = X 120 j) → zCo X W → zCo X' W
  | [], _, _ => trivial
  | p :: W, h, q => by
    have e : zOpn (p :: W) = zOpn W + (if p.1 = 7 then 1 else 0) := rfl
    refine ⟨fun h7 => ?_, zCo_cg W (fun j hj => h j (by omega)) q.2⟩
    rw [h (zOpn W) (by rw [e, if_pos h7]; omega)]
    exact q.1 h7
theorem zOpn_ap : ∀ A B : List (Nat × Nat), zOpn (A ++ B) = zOpn A + zOpn B
  | [], B => (Nat.zero_add _).symm
  | p :: A, B => by
    show zOpn (A ++ B) + _ = zOpn A + _ + zOpn B
    rw [zOpn_ap A B]
    omega
theorem zCo_ap {X : zm_I} : ∀ A B : List (Nat × Nat), zCo X (A ++ B) → zCo X B
  | [], _, h => h
  | _ :: A, B, h => zCo_ap A B h.2
theorem zHc_ap : ∀ A B : List (Nat × Nat), (∀ p ∈ A, 17 ≤ p.1) → zHc (A ++ B) = zHc B
  | [], _, _ => rfl
  | (k, b) :: A, B, h => (zHc_hi (h (k, b) List.mem_cons_self)).trans (zHc_ap A B (fun p hp => h p (List.mem_cons_of_mem _ hp)))
/-- the token that the reference holds and the class has before it -/
def zTS (n i : Nat) (M X : zm_I) (pl nx : Nat) (kd wh : Int32) : Prop :=
  (M 50 1 = nI n ∧ n ≤ 500 ∧ M 50 3 = nI i ∧ i ≤ n ∧ X 87 31 = nI n ∧ zTp n (M 1) (X 88) ∧ zWs X) ∧ (∃ w0, rTkP (X 88) n i w0 pl nx kd wh) ∧ X 87 35 = nI pl ∧ X 87 32 = nI nx ∧ X 87 33 = kd ∧ X 87 34 = wh
theorem rTkP_nx {r : Nat → Int32} {n i pl nx : Nat} {w0 kd wh : Int32} (hin : i ≤ n) (h : rTkP r n i w0 pl nx kd wh) : nx ≤ n ∧ i ≤ nx ∧ (¬ kd = nI 0 → i < nx) := by
  have h1 := rTkP_le hin h
  by_cases c : pl < n
  · have := h1.2.2.1 c
    exact ⟨by omega, by omega, fun _ => by omega⟩
  · obtain ⟨h3, h2⟩ := h
    rcases h2 with ⟨a1, a2, a3, a4⟩ | ⟨a1, _⟩ | ⟨a1, _⟩ | ⟨a1, _⟩
    · exact ⟨by omega, by omega, fun q => absurd a3 q⟩
    · exact absurd a1 c
    · exact absurd a1 c
    · exact absurd a1 c
theorem zTS_nx {n i : Nat} {M X : zm_I} {pl nx : Nat} {kd wh : Int32} (h : zTS n i M X pl nx kd wh) : fNx M 50 2 = nI pl ∧ fNx M 50 3 = nI nx ∧ zTe kd wh (fNx M 50 4) (fNx M 50 5) ∧ nx ≤ n ∧ fNx M 50 1 = nI n ∧ i ≤ nx ∧ (¬ kd = nI 0 → i < nx) := by
  obtain ⟨⟨h1, h2, h3, h4, h5, h6, h7⟩, ⟨w0, h8⟩, _⟩ := h
  obtain ⟨a1, a2, a3⟩ := zTkE h1 h2 h3 h4 h6 h8
  obtain ⟨b1, b2, b3⟩ := rTkP_nx h4 h8
  refine ⟨a1, a2, a3, b1, ?_, b2, b3⟩
  show fRap _ _ _ 50 1 = _
  rw [fRap_j _ _ _ (by decide) (by decide)]
  exact h1
/-- the next token is taken -/
theorem zTS_take {n i : Nat} {M M' X X2 : zm_I} {pl nx pl2 nx2 : Nat} {kd wh w0 kd2 wh2 : Int32} (h : zTS n i M X pl nx kd wh) (hM : M' 50 = fNx M 50) (hM1 : M' 1 = M 1) (h88 : X2 88 = X 88) (h106 : X2 106 = X 106) (h31 : X2 87 31 = X 87 31) (ht : rTkP (X2 88) n nx w0 pl2 nx2 kd2 wh2) :
    zTS n nx M' (rTk X2 (nI pl2) (nI nx2) kd2 wh2) pl2 nx2 kd2 wh2 := by
  obtain ⟨e2, e3, e4, e5, e6, _⟩ := zTS_nx h
  obtain ⟨⟨h1, h2, h3, h4, h5, h6, h7⟩, _⟩ := h
  refine ⟨⟨by rw [hM]; exact e6, h2, by rw [hM]; exact e3, e5, ?_, ?_, ?_⟩, ⟨w0, ?_⟩, ?_, ?_, ?_, ?_⟩
  · rw [rTk_j _ _ _ _ _ (by decide) (by decide) (by decide) (by decide), h31]; exact h5
  · rw [hM1, rTk_nq _ _ _ _ _ (by decide), h88]; exact h6
  · intro j hj
    rw [rTk_nq _ _ _ _ _ (by decide), h106]; exact h7 j hj
  · rw [rTk_nq _ _ _ _ _ (by decide)]; exact ht
  · simp [rTk]
  · simp [rTk]
  · simp [rTk]
  · simp [rTk]
theorem zTS_cgX {n i : Nat} {M X X' : zm_I} {pl nx : Nat} {kd wh : Int32} (h : zTS n i M X pl nx kd wh) (h88 : X' 88 = X 88) (h106 : X' 106 = X 106) (h31 : X' 87 31 = X 87 31) (h35 : X' 87 35 = X 87 35) (h32 : X' 87 32 = X 87 32) (h33 : X' 87 33 = X 87 33) (h34 : X' 87 34 = X 87 34) : zTS n i M X' pl nx kd wh := by
  obtain ⟨⟨h1, h2, h3, h4, h5, h6, h7⟩, ⟨w0, h8⟩, r1, r2, r3, r4⟩ := h
  exact ⟨⟨h1, h2, h3, h4, h31.trans h5, by rw [h88]; exact h6, fun j hj => by rw [h106]; exact h7 j hj⟩, ⟨w0, by rw [h88]; exact h8⟩, h35.trans r1, h32.trans r2, h33.trans r3, h34.trans r4⟩
/-- what the reader leaves alone -/
def zFrX (X X' : zm_I) : Prop := (∀ a, a ≠ 87 → (a < 110 ∨ 120 < a ∨ a = 115 ∨ a = 116) → X' a = X a) ∧ (∀ a j, 110 ≤ a → a ≤ 114 → j < 64 → X' a j = X a j) ∧ ∀ j, (j < 29 ∨ j = 31 ∨ (35 < j ∧ j < 47) ∨ 58 < j) → X' 87 j = X 87 j
theorem zFrX_rf (X : zm_I) : zFrX X X := ⟨fun _ _ _ => rfl, fun _ _ _ _ _ => rfl, fun _ _ => rfl⟩
theorem zFrX_tr {A B D : zm_I} (h : zFrX A B) (h2 : zFrX B D) : zFrX A D := ⟨fun a x1 x2 => (h2.1 a x1 x2).trans (h.1 a x1 x2), fun a j x1 x2 x3 => (h2.2.1 a j x1 x2 x3).trans (h.2.1 a j x1 x2 x3), fun j x1 => (h2.2.2 j x1).trans (h.2.2 j x1)⟩
theorem zFrX_87 (X : zm_I) (j : Nat) (v : Int32) (h : ¬ (j < 29 ∨ j = 31 ∨ (35 < j ∧ j < 47) ∨ 58 < j)) : zFrX X (zs X 87 j v) :=
  ⟨fun _ x1 _ => zs_nq x1, fun _ _ x1 _ _ => by rw [zs_nq (by omega)], fun _ x1 => zs_nj (fun e => h (e ▸ x1))⟩
theorem zFrX_tk (X : zm_I) (a b c d : Int32) : zFrX X (rTk X a b c d) :=
  ⟨fun _ x1 _ => rTk_nq _ _ _ _ _ x1, fun _ _ x1 _ _ => by rw [rTk_nq _ _ _ _ _ (by omega)], fun _ x1 => rTk_j _ _ _ _ _ (by omega) (by omega) (by omega) (by omega)⟩
theorem zFrX_hi (X : zm_I) (q s : Nat) (v : Int32) (h : (117 ≤ q ∧ q ≤ 120) ∨ (110 ≤ q ∧ q ≤ 114 ∧ 64 ≤ s)) : zFrX X (zs X q s v) :=
  ⟨fun _ _ _ => zs_nq (by omega), fun _ _ _ _ _ => by rw [zs_at, if_neg (by omega)], fun _ _ => by rw [zs_nq (by omega)]⟩
theorem zFrX_wr (X : zm_I) (w : Int32) : zFrX X (rWrong X w) := zFrX_tr (zFrX_87 X 29 w (by omega)) (zFrX_87 _ 30 _ (by omega))
theorem zFrX_gr (X : zm_I) (q : Nat) (k v : Int32) : zFrX X (rGrM X q k v) := zFrX_tr (zFrX_tr (zFrX_tr (zFrX_tr (zFrX_87 X 47 _ (by omega)) (zFrX_hi _ _ _ _ (by omega))) (zFrX_hi _ _ _ _ (by omega))) (zFrX_hi _ _ _ _ (by omega))) (zFrX_hi _ _ _ _ (by omega))
theorem zFrX_do (X : zm_I) (q h : Nat) (a : Int32) : zFrX X (rDoM X q h a) := zFrX_tr (zFrX_tr (zFrX_tr (zFrX_hi _ _ _ _ (by omega)) (zFrX_87 _ 48 _ (by omega))) (zFrX_hi _ _ _ _ (by omega))) (zFrX_87 _ 53 _ (by omega))
theorem zFrX_wf (X : zm_I) (s : Nat) (k a : Int32) : zFrX X (rWfM X s k a) := zFrX_tr (zFrX_tr (zFrX_hi _ _ _ _ (by omega)) (zFrX_hi _ _ _ _ (by omega))) (zFrX_87 _ 51 _ (by omega))
theorem zFrX_bd {X X' : zm_I} (h : zBdF X X') : zFrX X X' := ⟨fun a x1 x4 => h.1 a x1 (by omega) (by omega) (by omega) (by omega), fun a j _ _ x3 => h.2.2 a j (by omega) (by omega) x3, fun j x1 => h.2.1 j (by omega) (by omega) (by omega)⟩
/-- the class's small steps -/
theorem fCnK_at {N : zm_I} {kn : Nat} (h : N 43 8 = nI kn) (hk : kn ≤ 64) : fCnK N = if kn < 64 then (true, zs N 43 8 (nI (kn + 1))) else (false, fFail N (nI 2)) := by
  unfold fCnK
  rw [h]
  by_cases c : kn < 64
  · rw [if_pos c, if_pos ((nI_ltI (by omega) (by decide)).mpr c), nI_add]
  · rw [if_neg c, if_neg (fun q => c ((nI_ltI (by omega) (by decide)).mp q))]
theorem fPw_at {M : zm_I} {w : Nat} (h : M 42 3 = nI w) (hw : w < 72) (k : Int32) : fPw M k = (true, zs (zs M 49 w k) 42 3 (nI (w + 1))) := by
  unfold fPw
  rw [h, zi_nI (by omega), if_pos hw]
theorem fWr_at {M : zm_I} {w : Nat} (h : M 42 5 = nI w) (hw : w < 64) (k v : Int32) : fWr M k v = (true, zs (zs (zs M 44 w k) 45 w v) 42 5 (nI (w + 1))) := by
  unfold fWr
  rw [h, zi_nI (by omega), if_pos hw]
/-- the whole state in front of a token -/
def zPE (n i : Nat) (M X : zm_I) (l s0 wr kn : Nat) (W : List (Nat × Nat)) (S : List Nat) (dn : Nat → Nat) (v : Bool) : Prop :=
  zPS M X l s0 wr kn kn W S dn ∧ S.length = zTws W + (if v = true then 0 else 1) ∧ (X 87 56 = zb (zHc W = true) ∧ zCo X W) ∧ X 87 57 = zb (v = true) ∧ (v = true → X 87 58 = zb (zMn W = true)) ∧ ∃ pl nx kd wh, zTS n i M X pl nx kd wh
/-- a step of both readers -/
def zStp (n i l s0 wr : Nat) (dn : Nat → Nat) (M X : zm_I) (R : Bool × zm_I) (v : Bool) (z : Int32) (X' : zm_I) : Prop :=
  zFrX X X' ∧ ((R.1 = false ∧ z = nI 0 ∧ X' 87 29 = R.2 42 7 ∧ X' 87 30 = R.2 42 8) ∨
    (R.1 = true ∧ z = nI 1 ∧ ∃ (i' wr' kn' : Nat) (W' : List (Nat × Nat)) (S' : List Nat) (dn' : Nat → Nat), i < i' ∧ wr ≤ wr' ∧ zPE n i' R.2 X' l s0 wr' kn' W' S' dn' v ∧ zOld wr dn M X dn' R.2 X'))
theorem zStp_bad {n i l s0 wr : Nat} {dn : Nat → Nat} {M X N : zm_I} {R : Bool × zm_I} {v : Bool} {w : Int32} {pl : Nat} (hR : R = (false, fFail N w)) (h2 : N 50 2 = nI pl) (h35 : X 87 35 = nI pl) : zStp n i l s0 wr dn M X R v (nI 0) (rWrong X w) :=
  ⟨zFrX_wr X w, Or.inl ⟨by rw [hR], rfl, by rw [hR]; rfl, by rw [hR]; show X 87 35 = N 50 2; rw [h35, h2]⟩⟩
