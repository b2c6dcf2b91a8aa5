/-- what stays is the same in both, as far as it is asked -/
def zSt (rk least : Int32) : List (Nat × Nat) → Prop
  | [] => True
  | p :: W => (fStay (nI p.1) rk ↔ rWt (nI (zKo p.1)) < least) ∧ (¬ fStay (nI p.1) rk → zSt rk least W)
/-- what binding leaves alone -/
def zBdF (X X' : zm_I) : Prop := (∀ a, a ≠ 87 → a ≠ 111 → a ≠ 112 → a ≠ 114 → a ≠ 119 → X' a = X a) ∧ (∀ j, j ≠ 51 → j ≠ 48 → j ≠ 53 → X' 87 j = X 87 j) ∧ ∀ a j, a ≠ 119 → a ≠ 87 → j < 64 → X' a j = X a j
theorem zs_lo {M : zm_I} {q s : Nat} {v : Int32} (hs : 64 ≤ s) (a : Nat) {j : Nat} (hj : j < 64) : zs M q s v a j = M a j := by
  rw [zs_at, if_neg (fun h => by omega)]
/-- the knots that were written stay as they are -/
def zKf (M0 X0 M X : zm_I) : Prop := X 87 29 = X0 87 29 ∧ X 87 30 = X0 87 30 ∧ M 42 7 = M0 42 7 ∧ M 42 8 = M0 42 8
theorem zKf_of {M0 X0 M X : zm_I} (h : ∀ j, j = 29 ∨ j = 30 → X 87 j = X0 87 j) (k : ∀ j, j = 7 ∨ j = 8 → M 42 j = M0 42 j) : zKf M0 X0 M X := ⟨h 29 (Or.inl rfl), h 30 (Or.inr rfl), k 7 (Or.inl rfl), k 8 (Or.inr rfl)⟩
theorem zKf_tr {A X B Y D Z : zm_I} (h : zKf A X B Y) (k : zKf B Y D Z) : zKf A X D Z := ⟨k.1.trans h.1, k.2.1.trans h.2.1, k.2.2.1.trans h.2.2.1, k.2.2.2.trans h.2.2.2⟩
def zOld (wr0 : Nat) (dn0 : Nat → Nat) (M0 X0 : zm_I) (dn : Nat → Nat) (M X : zm_I) : Prop :=
  (∀ i, i < wr0 → dn i = dn0 i ∧ X 110 (64 + dn0 i) = X0 110 (64 + dn0 i) ∧ X 111 (64 + dn0 i) = X0 111 (64 + dn0 i) ∧ X 112 (64 + dn0 i) = X0 112 (64 + dn0 i) ∧ X 113 (64 + dn0 i) = X0 113 (64 + dn0 i)) ∧ (∀ c, c < wr0 → M 44 c = M0 44 c ∧ M 45 c = M0 45 c) ∧ zKf M0 X0 M X
theorem zOld_rf (wr0 : Nat) (dn : Nat → Nat) (M X : zm_I) : zOld wr0 dn M X dn M X := ⟨fun _ _ => ⟨rfl, rfl, rfl, rfl, rfl⟩, fun _ _ => ⟨rfl, rfl⟩, rfl, rfl, rfl, rfl⟩
theorem zOld_tr {wr0 wr1 : Nat} {dn0 dn1 dn2 : Nat → Nat} {M0 X0 M1 X1 M2 X2 : zm_I} (hw : wr0 ≤ wr1) (h : zOld wr0 dn0 M0 X0 dn1 M1 X1) (h2 : zOld wr1 dn1 M1 X1 dn2 M2 X2) : zOld wr0 dn0 M0 X0 dn2 M2 X2 := by
  refine ⟨fun i hi => ?_, fun c hc => ⟨(h2.2.1 c (by omega)).1.trans (h.2.1 c hc).1, (h2.2.1 c (by omega)).2.trans (h.2.1 c hc).2⟩, zKf_tr h.2.2 h2.2.2⟩
  obtain ⟨a1, a2, a3, a4, a5⟩ := h.1 i hi
  obtain ⟨b1, b2, b3, b4, b5⟩ := h2.1 i (by omega)
  rw [a1] at b1 b2 b3 b4 b5
  exact ⟨b1, b2.trans a2, b3.trans a3, b4.trans a4, b5.trans a5⟩
theorem zBdF_tr {A B D : zm_I} (h : zBdF A B) (h2 : zBdF B D) : zBdF A D := ⟨fun a h3 h4 h5 h6 h7 => (h2.1 a h3 h4 h5 h6 h7).trans (h.1 a h3 h4 h5 h6 h7), fun j h3 h4 h5 => (h2.2.1 j h3 h4 h5).trans (h.2.1 j h3 h4 h5), fun a j h3 h4 h5 => (h2.2.2 a j h3 h4 h5).trans (h.2.2 a j h3 h4 h5)⟩
theorem zTws_len (k b : Nat) (W : List (Nat × Nat)) (hk : k = 10 ∨ k = 22) : zTws ((k, b) :: W) = zTws W := by
  show zTws W + (if k = 7 ∨ k = 10 ∨ k = 22 then 0 else 1) = _
  rw [if_pos (by omega), Nat.add_zero]
theorem zTws_two (k b : Nat) (W : List (Nat × Nat)) (hk : zTwo k) : zTws ((k, b) :: W) = zTws W + 1 := by
  show zTws W + (if k = 7 ∨ k = 10 ∨ k = 22 then 0 else 1) = _
  rw [if_neg (by omega)]
theorem zcons1 {S : List Nat} {n : Nat} (h : S.length = n + 1) : ∃ c R, S = c :: R ∧ R.length = n := by
  cases S with
  | nil => exact absurd h (by simp)
  | cons c R => exact ⟨c, R, rfl, Nat.succ.inj h⟩
theorem ct_rBind (g : zm_G) (gi : zm_I) (gl : zm_J) (r : Nat) (M : zm_I) {l s0 wr kn kb : Nat} {W : List (Nat × Nat)} {S : List Nat} {dn : Nat → Nat} (hP : zPS M gi l s0 wr kn kb W S dn) (hS : S.length = zTws W + 1) (rk least : Int32) (hst : zSt rk least W)  : zC_v g yX11_bind mX11_bind 1 [.ref 87, .int least] zSH gi gl (zRT r) (fun gi' gl' gr' => ∃ (Wp W' : List (Nat × Nat)) (S' : List Nat) (wr' : Nat) (dn' : Nat → Nat), W = Wp ++ W' ∧ (∀ p ∈ Wp, ¬ fStay (nI p.1) rk) ∧ (W' = [] ∨ ∃ p W2, W' = p :: W2 ∧ fStay (nI p.1) rk) ∧ zPS (fWw M rk) gi' l s0 wr' kn kb W' S' dn' ∧ S'.length = zTws W' + 1 ∧ zBdF gi gi' ∧ wr ≤ wr' ∧ zOld wr dn M gi dn' (fWw M rk) gi' ∧ gl' = gl ∧ gr' = zRT r) := by
  refine zC_v_of [some (.ref 87), some (.int least), none] (by decide) rfl rfl (Nat.le_of_ble_eq_true rfl) (fun x => ?_)
  have key : ∀ (Z X0 M0 : zm_I) (wr0 : Nat) (dn0 : Nat → Nat) (W0 W : List (Nat × Nat)) (Wq : List (Nat × Nat)) (M X : zm_I) (S : List Nat) (wr : Nat) (dn : Nat → Nat) (l2 : Option Value), W0 = Wq ++ W → (∀ p ∈ Wq, ¬ fStay (nI p.1) rk) → zBdF X0 X → wr0 ≤ wr → zOld wr0 dn0 M0 X0 dn M X → zPS M X l s0 wr kn kb W S dn → S.length = zTws W + 1 → zSt rk least W → fWwL rk W.length M = Z → zB_v x g mX11_bind 1 zSH (fun gi' gl' gr' => ∃ (Wp W' : List (Nat × Nat)) (S' : List Nat) (wr' : Nat) (dn' : Nat → Nat), W0 = Wp ++ W' ∧ (∀ p ∈ Wp, ¬ fStay (nI p.1) rk) ∧ (W' = [] ∨ ∃ p W2, W' = p :: W2 ∧ fStay (nI p.1) rk) ∧ zPS Z gi' l s0 wr' kn kb W' S' dn' ∧ S'.length = zTws W' + 1 ∧ zBdF X0 gi' ∧ wr0 ≤ wr' ∧ zOld wr0 dn0 M0 X0 dn' Z gi' ∧ gl' = gl ∧ gr' = zRT r) 0 [some (.ref 87), some (.int least), l2] [] X gl (zRT r) := by
    intro Z X0 M0 wr0 dn0 W0 W
    induction W with
    | nil =>
      intro Wq M X S wr dn l2 hq1 hq2 hX hwo hOl hP hS hst hZ
      refine zA_aload_0 dX11_bind_0 ?_
      refine zA_getI (v := (nI 0)) sh_87 fX11_264 dX11_bind_1 rfl hP.1.2.1 ?_
      refine zA_if_le 101 dX11_bind_4 (by decide) (fun _ => ?_) (fun hh => absurd (by decide) hh)
      exact zB_vret rfl dX11_bind_101 (⟨Wq, [], S, wr, dn, hq1, hq2, Or.inl rfl, by rw [← hZ]; exact hP, hS, hX, hwo, by rw [← hZ]; exact hOl, rfl, rfl⟩)
    | cons p W ih =>
      intro Wq M X S wr dn l2 hq1 hq2 hX hwo hOl hP hS hst hZ
      obtain ⟨k, b⟩ := p
      obtain ⟨⟨a1, a2, a3, a4, a5⟩, ⟨b1, b2, b3⟩, ⟨c1, c2, c3, c4⟩, ⟨d1, d2, d3⟩, e1, e2, ⟨f1, f2⟩, g1, g2, g3, g4⟩ := id hP
      obtain ⟨s1, s2⟩ := hst
      have hZ2 : (if fStay (M 49 W.length) rk then M else fWwL rk W.length (fWwS M W.length)) = Z := hZ
      have h49 : M 49 W.length = nI k := a3.1
      have h117 : X 117 W.length = nI (zKo k) := a4.1
      have hwl : W.length + 1 ≤ 72 := by
        have h9 : ((k, b) :: W).length = W.length + 1 := rfl
        rw [h9] at g1
        omega
      have x51 : X 87 51 = nI (W.length + 1) := a2
      rw [h49] at hZ2
      refine zA_aload_0 dX11_bind_0 ?_
      refine zA_getI (v := (nI (W.length + 1))) sh_87 fX11_264 dX11_bind_1 rfl x51 ?_
      refine zA_if_le 101 dX11_bind_4 (by decide) (fun h => ?_) (fun h => ?_)
      · exact absurd h (zww_pos hwl)
      · refine zA_aload_0 dX11_bind_7 ?_
        refine zA_getR sh_87 fX11_102 dX11_bind_8 rfl (rt_87_49 _) ?_
        refine zA_aload_0 dX11_bind_11 ?_
        refine zA_getI (v := (nI (W.length + 1))) sh_87 fX11_264 dX11_bind_12 rfl x51 ?_
        refine zA_iconst (nI 1) dX11_bind_15 ic_1 ?_
        refine zA_isubN dX11_bind_16 (by omega) ?_
        refine zA_iald (v := (nI (zKo k))) W.length sh_117 dX11_bind_17 (by rw [show W.length + 1 - 1 = W.length by omega]) (by omega) (by decide) h117 ?_
        refine zA_cSi (ct_rWeight g _ _ _ (nI (zKo k))) calX11_weight stX11_weight lX11_267 dX11_bind_18 (by decide) (by simp [Value.category]) rfl (Nat.le_refl _) (Nat.le_refl _) (fun zz gi' gl' gr' ⟨hz, e1, e2, e3⟩ => ?_)
        rw [hz, e1, e2, e3]
        clear hz e1 e2 e3
        refine zA_iload_1 dX11_bind_21 ?_
        refine zA_icmp_lt 101 dX11_bind_22 (by decide) (fun h1 => ?_) (fun h1 => ?_)
        · have hs := s1.mpr h1
          rw [if_pos hs] at hZ2
          exact zB_vret rfl dX11_bind_101 (⟨Wq, (k, b) :: W, S, wr, dn, hq1, hq2, Or.inr ⟨(k, b), W, rfl, hs⟩, by rw [← hZ2]; exact hP, hS, hX, hwo, by rw [← hZ2]; exact hOl, rfl, rfl⟩)
        · have hs : ¬ fStay (nI k) rk := fun z => h1 (s1.mp z)
          rw [if_neg hs] at hZ2
          have hk7 : k ≠ 7 := fun e => hs (by rw [e]; exact Or.inl rfl)
          have h118 : X 118 W.length = nI (64 + b) := a4.2.1 hk7
          obtain ⟨q1, q2, q3, q4⟩ := f1 (k, b) List.mem_cons_self hk7
          have q1' : b < kb := q1
          have hwr : wr < 64 := by
            have h9 : ((k, b) :: W).length = W.length + 1 := rfl
            have h8 : zOpn ((k, b) :: W) = zOpn W := by
              show zOpn W + (if k = 7 then 1 else 0) = zOpn W
              rw [if_neg hk7]
              omega
            have := zOpn_le W
            rw [h9, h8] at g1
            omega
          have hkk : k = 10 ∨ k = 22 ∨ zTwo k := by
            rcases a5 (k, b) List.mem_cons_self with h | h | h | h
            · exact absurd h hk7
            · exact Or.inl h
            · exact Or.inr (Or.inl h)
            · exact Or.inr (Or.inr h)
          have again : ∀ (X' : zm_I) (R : List Nat) (l2 : Option Value), zBdF X X' → (∀ j, j ≠ 64 + b → X' 111 j = X 111 j) → (∀ j, j ≠ 64 + b → X' 112 j = X 112 j) → zPS (fWwS M W.length) X' l s0 (wr + 1) kn kb W (b :: R) (fun i => if i = wr then b else dn i) → R.length = zTws W → zB_v x g mX11_bind 1 zSH (fun gi' gl' gr' => ∃ (Wp W' : List (Nat × Nat)) (S' : List Nat) (wr' : Nat) (dn' : Nat → Nat), W0 = Wp ++ W' ∧ (∀ p ∈ Wp, ¬ fStay (nI p.1) rk) ∧ (W' = [] ∨ ∃ p W2, W' = p :: W2 ∧ fStay (nI p.1) rk) ∧ zPS Z gi' l s0 wr' kn kb W' S' dn' ∧ S'.length = zTws W' + 1 ∧ zBdF X0 gi' ∧ wr0 ≤ wr' ∧ zOld wr0 dn0 M0 X0 dn' Z gi' ∧ gl' = gl ∧ gr' = zRT r) 0 [some (.ref 87), some (.int least), l2] [] X' gl (zRT r) := fun X' R l2 r1 r11 r12 r2 r3 => ih (Wq ++ [(k, b)]) (fWwS M W.length) X' (b :: R) (wr + 1) _ l2 (by rw [hq1, List.append_assoc]; rfl) (fun p hp => by
            rcases List.mem_append.mp hp with h | h
            · exact hq2 p h
            · rw [List.mem_singleton.mp h]; exact hs) (zBdF_tr hX r1) (by omega) (zOld_tr hwo hOl ⟨fun i hi => ⟨if_neg (by omega), by rw [r1.1 110 (by decide) (by decide) (by decide) (by decide) (by decide)], r11 _ (by have := q3 i hi; omega), r12 _ (by have := q3 i hi; omega), by rw [r1.1 113 (by decide) (by decide) (by decide) (by decide) (by decide)]⟩, fun c hc => by rw [fWwS_at b1 hwr, zs_nq (by decide), zs_nq (by decide), zs_nj (by omega), zs_nq (by decide), zs_nq (by decide), zs_nj (by omega), zs_nq (by decide), zs_nq (by decide)]; exact ⟨rfl, rfl⟩, zKf_of (fun j hj => r1.2.1 j (by omega) (by omega) (by omega)) (fun j hj => by rw [fWwS_at b1 hwr, zs_nj (by omega), zs_nq (by decide), zs_nq (by decide), zs_nj (by omega)])⟩) r2 (by rw [List.length_cons, r3]) (s2 hs) hZ2
          have hsl : S.length ≤ 100 := by
            have : zTws ((k, b) :: W) ≤ W.length + 1 := by
              have hh : ∀ V : List (Nat × Nat), zTws V ≤ V.length := by
                intro V
                induction V with
                | nil => exact Nat.le_refl _
                | cons p V ih =>
                  show zTws V + (if p.1 = 7 ∨ p.1 = 10 ∨ p.1 = 22 then 0 else 1) ≤ V.length + 1
                  split <;> omega
              exact hh ((k, b) :: W)
            omega
          rcases hkk with hk | hk | hk
          · have h117' : X 117 W.length = nI 13 := by rw [h117, hk]; decide
            rw [zTws_len k b W (Or.inl hk)] at hS
            obtain ⟨c, R, eS, hR⟩ := zcons1 hS
            have hRl : R.length < 100 := by omega
            have d1' : X 87 53 = nI (R.length + 1) := by rw [d1, eS]; rfl
            have h119 : X 119 R.length = nI (64 + c) := by rw [eS] at d2; exact d2.1
            refine zA_aload_0 dX11_bind_25 ?_
            refine zA_dup dX11_bind_26 rfl ?_
            refine zA_getI (v := (nI (W.length + 1))) sh_87 fX11_264 dX11_bind_27 rfl x51 ?_
            refine zA_iconst (nI 1) dX11_bind_30 ic_1 ?_
            refine zA_isubN dX11_bind_31 (by omega) ?_
            rw [show W.length + 1 - 1 = W.length by omega]
            refine zS_putI sh_87 fX11_264 dX11_bind_32 rfl rfl ?_
            refine zA_aload_0 dX11_bind_35 ?_
            refine zA_getR sh_87 fX11_105 dX11_bind_36 rfl (rt_87_50 _) ?_
            refine zA_aload_0 dX11_bind_39 ?_
            refine zA_getI (v := (nI W.length)) sh_87 fX11_264 dX11_bind_40 rfl rfl ?_
            refine zA_iald (v := (nI (64 + b))) W.length sh_118 dX11_bind_43 rfl (by omega) (by decide) h118 ?_
            refine zA_istore_2 dX11_bind_44 rfl ?_
            refine zA_aload_0 dX11_bind_45 ?_
            refine zA_getR sh_87 fX11_102 dX11_bind_46 rfl (rt_87_49 _) ?_
            refine zA_aload_0 dX11_bind_49 ?_
            refine zA_getI (v := (nI W.length)) sh_87 fX11_264 dX11_bind_50 rfl rfl ?_
            refine zA_iald (v := (nI 13)) W.length sh_117 dX11_bind_53 rfl (by omega) (by decide) h117' ?_
            refine zA_bipush (nI 12) dX11_bind_54 bc_12 ?_
            refine zA_icmp_eqN 83 dX11_bind_56 (by decide) (by decide) (by decide) (fun hh => absurd hh (by decide)) (fun _ => ?_)
            refine zA_aload_0 dX11_bind_59 ?_
            refine zA_getR sh_87 fX11_102 dX11_bind_60 rfl (rt_87_49 _) ?_
            refine zA_aload_0 dX11_bind_63 ?_
            refine zA_getI (v := (nI W.length)) sh_87 fX11_264 dX11_bind_64 rfl rfl ?_
            refine zA_iald (v := (nI 13)) W.length sh_117 dX11_bind_67 rfl (by omega) (by decide) h117' ?_
            refine zA_bipush (nI 13) dX11_bind_68 bc_13 ?_
            refine zA_icmp_eqN 83 dX11_bind_70 (by decide) (by decide) (by decide) (fun _ => ?_) (fun hh => absurd hh (by decide))
            refine zA_aload_0 dX11_bind_83 ?_
            refine zA_getR sh_87 fX11_84 dX11_bind_84 rfl (rt_87_40 _) ?_
            refine zA_iload_2 dX11_bind_87 ?_
            refine zA_aload_0 dX11_bind_88 ?_
            refine zA_cVi (ct_rDrop g (zs X 87 51 (nI W.length)) gl r (h := R.length) d1' hRl) calX11_drop stX11_drop lX11_270 dX11_bind_89 (by decide) (by simp [Value.category]) rfl (Nat.le_refl _) (Nat.le_refl _) sh_87 rfl (fun zz gi' gl' gr' ⟨hz, e1, e2, e3⟩ => ?_)
            have hz2 : zz = nI (64 + c) := hz.trans h119
            rw [hz2, e1, e2, e3]
            clear hz hz2 e1 e2 e3
            refine zS_iast (64 + b) sh_111 dX11_bind_92 rfl (by omega) (by decide) ?_
            refine zA_aload_0 dX11_bind_93 ?_
            refine zA_iload_2 dX11_bind_94 ?_
            refine zA_cVv (ct_rDone g (zs (zs (zs X 87 51 (nI W.length)) 87 53 (nI R.length)) 111 (64 + b) ((nI (64 + c)))) gl r (q := wr) (h := R.length) b2 hwr rfl (by omega) (nI (64 + b))) calX11_done stX11_done lX11_274 dX11_bind_95 (by decide) (by simp [Value.category]) rfl (Nat.le_refl _) (Nat.le_refl _) sh_87 rfl (fun gi' gl' gr' ⟨e1, e2, e3⟩ => ?_)
            rw [e1, e2, e3]
            clear e1 e2 e3
            refine zA_goto 0 dX11_bind_98 (by decide) ?_
            have hb1 : zBdF X (rDoM (zs (zs (zs X 87 51 (nI W.length)) 87 53 (nI R.length)) 111 (64 + b) ((nI (64 + c)))) wr R.length (nI (64 + b))) := ⟨fun a h1 h2 h3 h4 h5 => by unfold rDoM; rw [zs_nq h1, zs_nq h5, zs_nq h1, zs_nq h4, zs_nq h2, zs_nq h1, zs_nq h1], fun j h1 h2 h3 => by unfold rDoM; rw [zs_nj h3, zs_nq (by decide), zs_nj h2, zs_nq (by decide), zs_nq (by decide), zs_nj h3, zs_nj h1], fun a j h1 h2 h3 => by unfold rDoM; rw [zs_nq h2, zs_nq h1, zs_nq h2, zs_lo (by omega) a h3, zs_lo (by omega) a h3, zs_nq h2, zs_nq h2]⟩
            have c111 : ∀ j, (rDoM (zs (zs (zs X 87 51 (nI W.length)) 87 53 (nI R.length)) 111 (64 + b) ((nI (64 + c)))) wr R.length (nI (64 + b))) 111 j = if j = 64 + b then nI (64 + c) else X 111 j := fun j => by unfold rDoM; simp [zs_at]
            have c112 : (rDoM (zs (zs (zs X 87 51 (nI W.length)) 87 53 (nI R.length)) 111 (64 + b) ((nI (64 + c)))) wr R.length (nI (64 + b))) 112 = X 112 := by unfold rDoM; rw [zs_nq (by decide), zs_nq (by decide), zs_nq (by decide), zs_nq (by decide), zs_nq (by decide), zs_nq (by decide), zs_nq (by decide)]
            refine again (rDoM (zs (zs (zs X 87 51 (nI W.length)) 87 53 (nI R.length)) 111 (64 + b) ((nI (64 + c)))) wr R.length (nI (64 + b))) R _ hb1 (fun j hj => by rw [c111, if_neg hj]) (fun j hj => by rw [c112]) (zPS_pop hP hk7 (Or.inl ⟨by omega, c, eS, by rw [c111, if_pos rfl], c112⟩) (hb1.1 110 (by decide) (by decide) (by decide) (by decide) (by decide)) (fun j hj => by rw [c111, if_neg hj]) (hb1.1 113 (by decide) (by decide) (by decide) (by decide) (by decide)) (fun j => by unfold rDoM; simp [zs_at]) (hb1.1 117 (by decide) (by decide) (by decide) (by decide) (by decide)) (hb1.1 118 (by decide) (by decide) (by decide) (by decide) (by decide)) (fun j => by unfold rDoM; simp [zs_at]) ⟨by unfold rDoM; simp [zs_at], by unfold rDoM; simp [zs_at], by unfold rDoM; simp [zs_at], by unfold rDoM; simp [zs_at], by unfold rDoM; simp [zs_at]⟩).1 hR
          · have h117' : X 117 W.length = nI 12 := by rw [h117, hk]; decide
            rw [zTws_len k b W (Or.inr hk)] at hS
            obtain ⟨c, R, eS, hR⟩ := zcons1 hS
            have hRl : R.length < 100 := by omega
            have d1' : X 87 53 = nI (R.length + 1) := by rw [d1, eS]; rfl
            have h119 : X 119 R.length = nI (64 + c) := by rw [eS] at d2; exact d2.1
            refine zA_aload_0 dX11_bind_25 ?_
            refine zA_dup dX11_bind_26 rfl ?_
            refine zA_getI (v := (nI (W.length + 1))) sh_87 fX11_264 dX11_bind_27 rfl x51 ?_
            refine zA_iconst (nI 1) dX11_bind_30 ic_1 ?_
            refine zA_isubN dX11_bind_31 (by omega) ?_
            rw [show W.length + 1 - 1 = W.length by omega]
            refine zS_putI sh_87 fX11_264 dX11_bind_32 rfl rfl ?_
            refine zA_aload_0 dX11_bind_35 ?_
            refine zA_getR sh_87 fX11_105 dX11_bind_36 rfl (rt_87_50 _) ?_
            refine zA_aload_0 dX11_bind_39 ?_
            refine zA_getI (v := (nI W.length)) sh_87 fX11_264 dX11_bind_40 rfl rfl ?_
            refine zA_iald (v := (nI (64 + b))) W.length sh_118 dX11_bind_43 rfl (by omega) (by decide) h118 ?_
            refine zA_istore_2 dX11_bind_44 rfl ?_
            refine zA_aload_0 dX11_bind_45 ?_
            refine zA_getR sh_87 fX11_102 dX11_bind_46 rfl (rt_87_49 _) ?_
            refine zA_aload_0 dX11_bind_49 ?_
            refine zA_getI (v := (nI W.length)) sh_87 fX11_264 dX11_bind_50 rfl rfl ?_
            refine zA_iald (v := (nI 12)) W.length sh_117 dX11_bind_53 rfl (by omega) (by decide) h117' ?_
            refine zA_bipush (nI 12) dX11_bind_54 bc_12 ?_
            refine zA_icmp_eqN 83 dX11_bind_56 (by decide) (by decide) (by decide) (fun _ => ?_) (fun hh => absurd hh (by decide))
            refine zA_aload_0 dX11_bind_83 ?_
            refine zA_getR sh_87 fX11_84 dX11_bind_84 rfl (rt_87_40 _) ?_
            refine zA_iload_2 dX11_bind_87 ?_
            refine zA_aload_0 dX11_bind_88 ?_
            refine zA_cVi (ct_rDrop g (zs X 87 51 (nI W.length)) gl r (h := R.length) d1' hRl) calX11_drop stX11_drop lX11_270 dX11_bind_89 (by decide) (by simp [Value.category]) rfl (Nat.le_refl _) (Nat.le_refl _) sh_87 rfl (fun zz gi' gl' gr' ⟨hz, e1, e2, e3⟩ => ?_)
            have hz2 : zz = nI (64 + c) := hz.trans h119
            rw [hz2, e1, e2, e3]
            clear hz hz2 e1 e2 e3
            refine zS_iast (64 + b) sh_111 dX11_bind_92 rfl (by omega) (by decide) ?_
            refine zA_aload_0 dX11_bind_93 ?_
            refine zA_iload_2 dX11_bind_94 ?_
            refine zA_cVv (ct_rDone g (zs (zs (zs X 87 51 (nI W.length)) 87 53 (nI R.length)) 111 (64 + b) ((nI (64 + c)))) gl r (q := wr) (h := R.length) b2 hwr rfl (by omega) (nI (64 + b))) calX11_done stX11_done lX11_274 dX11_bind_95 (by decide) (by simp [Value.category]) rfl (Nat.le_refl _) (Nat.le_refl _) sh_87 rfl (fun gi' gl' gr' ⟨e1, e2, e3⟩ => ?_)
            rw [e1, e2, e3]
            clear e1 e2 e3
            refine zA_goto 0 dX11_bind_98 (by decide) ?_
            have hb1 : zBdF X (rDoM (zs (zs (zs X 87 51 (nI W.length)) 87 53 (nI R.length)) 111 (64 + b) ((nI (64 + c)))) wr R.length (nI (64 + b))) := ⟨fun a h1 h2 h3 h4 h5 => by unfold rDoM; rw [zs_nq h1, zs_nq h5, zs_nq h1, zs_nq h4, zs_nq h2, zs_nq h1, zs_nq h1], fun j h1 h2 h3 => by unfold rDoM; rw [zs_nj h3, zs_nq (by decide), zs_nj h2, zs_nq (by decide), zs_nq (by decide), zs_nj h3, zs_nj h1], fun a j h1 h2 h3 => by unfold rDoM; rw [zs_nq h2, zs_nq h1, zs_nq h2, zs_lo (by omega) a h3, zs_lo (by omega) a h3, zs_nq h2, zs_nq h2]⟩
            have c111 : ∀ j, (rDoM (zs (zs (zs X 87 51 (nI W.length)) 87 53 (nI R.length)) 111 (64 + b) ((nI (64 + c)))) wr R.length (nI (64 + b))) 111 j = if j = 64 + b then nI (64 + c) else X 111 j := fun j => by unfold rDoM; simp [zs_at]
            have c112 : (rDoM (zs (zs (zs X 87 51 (nI W.length)) 87 53 (nI R.length)) 111 (64 + b) ((nI (64 + c)))) wr R.length (nI (64 + b))) 112 = X 112 := by unfold rDoM; rw [zs_nq (by decide), zs_nq (by decide), zs_nq (by decide), zs_nq (by decide), zs_nq (by decide), zs_nq (by decide), zs_nq (by decide)]
            refine again (rDoM (zs (zs (zs X 87 51 (nI W.length)) 87 53 (nI R.length)) 111 (64 + b) ((nI (64 + c)))) wr R.length (nI (64 + b))) R _ hb1 (fun j hj => by rw [c111, if_neg hj]) (fun j hj => by rw [c112]) (zPS_pop hP hk7 (Or.inl ⟨by omega, c, eS, by rw [c111, if_pos rfl], c112⟩) (hb1.1 110 (by decide) (by decide) (by decide) (by decide) (by decide)) (fun j hj => by rw [c111, if_neg hj]) (hb1.1 113 (by decide) (by decide) (by decide) (by decide) (by decide)) (fun j => by unfold rDoM; simp [zs_at]) (hb1.1 117 (by decide) (by decide) (by decide) (by decide) (by decide)) (hb1.1 118 (by decide) (by decide) (by decide) (by decide) (by decide)) (fun j => by unfold rDoM; simp [zs_at]) ⟨by unfold rDoM; simp [zs_at], by unfold rDoM; simp [zs_at], by unfold rDoM; simp [zs_at], by unfold rDoM; simp [zs_at], by unfold rDoM; simp [zs_at]⟩).1 hR
          · have hz : zKo k = rKd k := if_neg hk7
            have hq : rKd k ≠ 12 ∧ rKd k ≠ 13 ∧ rKd k < 100 := by
              rcases hk with rfl | rfl | rfl | rfl | rfl | rfl | rfl | rfl | rfl | rfl | rfl | rfl | rfl <;> decide
            obtain ⟨q12, q13, q100⟩ := hq
            have h117' : X 117 W.length = nI (rKd k) := by rw [h117, hz]
            rw [zTws_two k b W hk] at hS
            obtain ⟨d, R1, eS1, hR1⟩ := zcons1 hS
            obtain ⟨c, R, eS2, hR⟩ := zcons1 hR1
            subst eS2
            have hRl : R.length + 1 < 100 := by
              rw [eS1] at hsl
              have : (d :: c :: R).length = R.length + 2 := rfl
              omega
            have d1' : X 87 53 = nI (R.length + 1 + 1) := by rw [d1, eS1]; rfl
            have h119 : X 119 (R.length + 1) = nI (64 + d) ∧ X 119 R.length = nI (64 + c) := by rw [eS1] at d2; exact ⟨d2.1, d2.2.1⟩
            refine zA_aload_0 dX11_bind_25 ?_
            refine zA_dup dX11_bind_26 rfl ?_
            refine zA_getI (v := (nI (W.length + 1))) sh_87 fX11_264 dX11_bind_27 rfl x51 ?_
            refine zA_iconst (nI 1) dX11_bind_30 ic_1 ?_
            refine zA_isubN dX11_bind_31 (by omega) ?_
            rw [show W.length + 1 - 1 = W.length by omega]
            refine zS_putI sh_87 fX11_264 dX11_bind_32 rfl rfl ?_
            refine zA_aload_0 dX11_bind_35 ?_
            refine zA_getR sh_87 fX11_105 dX11_bind_36 rfl (rt_87_50 _) ?_
            refine zA_aload_0 dX11_bind_39 ?_
            refine zA_getI (v := (nI W.length)) sh_87 fX11_264 dX11_bind_40 rfl rfl ?_
            refine zA_iald (v := (nI (64 + b))) W.length sh_118 dX11_bind_43 rfl (by omega) (by decide) h118 ?_
            refine zA_istore_2 dX11_bind_44 rfl ?_
            refine zA_aload_0 dX11_bind_45 ?_
            refine zA_getR sh_87 fX11_102 dX11_bind_46 rfl (rt_87_49 _) ?_
            refine zA_aload_0 dX11_bind_49 ?_
            refine zA_getI (v := (nI W.length)) sh_87 fX11_264 dX11_bind_50 rfl rfl ?_
            refine zA_iald (v := (nI (rKd k))) W.length sh_117 dX11_bind_53 rfl (by omega) (by decide) h117' ?_
            refine zA_bipush (nI 12) dX11_bind_54 bc_12 ?_
            refine zA_icmp_eqN 83 dX11_bind_56 (by decide) (by omega) (by omega) (fun p1 => ?_) (fun p1 => ?_)
            · exact absurd p1 q12
            · refine zA_aload_0 dX11_bind_59 ?_
              refine zA_getR sh_87 fX11_102 dX11_bind_60 rfl (rt_87_49 _) ?_
              refine zA_aload_0 dX11_bind_63 ?_
              refine zA_getI (v := (nI W.length)) sh_87 fX11_264 dX11_bind_64 rfl rfl ?_
              refine zA_iald (v := (nI (rKd k))) W.length sh_117 dX11_bind_67 rfl (by omega) (by decide) h117' ?_
              refine zA_bipush (nI 13) dX11_bind_68 bc_13 ?_
              refine zA_icmp_eqN 83 dX11_bind_70 (by decide) (by omega) (by omega) (fun p2 => ?_) (fun p2 => ?_)
              · exact absurd p2 q13
              · refine zA_aload_0 dX11_bind_73 ?_
                refine zA_getR sh_87 fX11_87 dX11_bind_74 rfl (rt_87_41 _) ?_
                refine zA_iload_2 dX11_bind_77 ?_
                refine zA_aload_0 dX11_bind_78 ?_
                refine zA_cVi (ct_rDrop g (zs X 87 51 (nI W.length)) gl r (h := R.length + 1) d1' hRl) calX11_drop stX11_drop lX11_270 dX11_bind_79 (by decide) (by simp [Value.category]) rfl (Nat.le_refl _) (Nat.le_refl _) sh_87 rfl (fun zz gi' gl' gr' ⟨hz, e1, e2, e3⟩ => ?_)
                have hz2 : zz = nI (64 + d) := hz.trans h119.1
                rw [hz2, e1, e2, e3]
                clear hz hz2 e1 e2 e3
                refine zS_iast (64 + b) sh_112 dX11_bind_82 rfl (by omega) (by decide) ?_
                refine zA_aload_0 dX11_bind_83 ?_
                refine zA_getR sh_87 fX11_84 dX11_bind_84 rfl (rt_87_40 _) ?_
                refine zA_iload_2 dX11_bind_87 ?_
                refine zA_aload_0 dX11_bind_88 ?_
                refine zA_cVi (ct_rDrop g (zs (zs (zs X 87 51 (nI W.length)) 87 53 (nI (R.length + 1))) 112 (64 + b) ((nI (64 + d)))) gl r (h := R.length) rfl (by omega)) calX11_drop stX11_drop lX11_270 dX11_bind_89 (by decide) (by simp [Value.category]) rfl (Nat.le_refl _) (Nat.le_refl _) sh_87 rfl (fun zz gi' gl' gr' ⟨hz, e1, e2, e3⟩ => ?_)
                have hz2 : zz = nI (64 + c) := hz.trans h119.2
                rw [hz2, e1, e2, e3]
                clear hz hz2 e1 e2 e3
                refine zS_iast (64 + b) sh_111 dX11_bind_92 rfl (by omega) (by decide) ?_
                refine zA_aload_0 dX11_bind_93 ?_
                refine zA_iload_2 dX11_bind_94 ?_
                refine zA_cVv (ct_rDone g (zs (zs (zs (zs (zs X 87 51 (nI W.length)) 87 53 (nI (R.length + 1))) 112 (64 + b) ((nI (64 + d)))) 87 53 (nI R.length)) 111 (64 + b) ((nI (64 + c)))) gl r (q := wr) (h := R.length) b2 hwr rfl (by omega) (nI (64 + b))) calX11_done stX11_done lX11_274 dX11_bind_95 (by decide) (by simp [Value.category]) rfl (Nat.le_refl _) (Nat.le_refl _) sh_87 rfl (fun gi' gl' gr' ⟨e1, e2, e3⟩ => ?_)
                rw [e1, e2, e3]
                clear e1 e2 e3
                refine zA_goto 0 dX11_bind_98 (by decide) ?_
                have hb1 : zBdF X (rDoM (zs (zs (zs (zs (zs X 87 51 (nI W.length)) 87 53 (nI (R.length + 1))) 112 (64 + b) ((nI (64 + d)))) 87 53 (nI R.length)) 111 (64 + b) ((nI (64 + c)))) wr R.length (nI (64 + b))) := ⟨fun a h1 h2 h3 h4 h5 => by unfold rDoM; rw [zs_nq h1, zs_nq h5, zs_nq h1, zs_nq h4, zs_nq h2, zs_nq h1, zs_nq h3, zs_nq h1, zs_nq h1], fun j h1 h2 h3 => by unfold rDoM; rw [zs_nj h3, zs_nq (by decide), zs_nj h2, zs_nq (by decide), zs_nq (by decide), zs_nj h3, zs_nq (by decide), zs_nj h3, zs_nj h1], fun a j h1 h2 h3 => by unfold rDoM; rw [zs_nq h2, zs_nq h1, zs_nq h2, zs_lo (by omega) a h3, zs_lo (by omega) a h3, zs_nq h2, zs_lo (by omega) a h3, zs_nq h2, zs_nq h2]⟩
                have c111 : ∀ j, (rDoM (zs (zs (zs (zs (zs X 87 51 (nI W.length)) 87 53 (nI (R.length + 1))) 112 (64 + b) ((nI (64 + d)))) 87 53 (nI R.length)) 111 (64 + b) ((nI (64 + c)))) wr R.length (nI (64 + b))) 111 j = if j = 64 + b then nI (64 + c) else X 111 j := fun j => by unfold rDoM; simp [zs_at]
                have c112 : ∀ j, (rDoM (zs (zs (zs (zs (zs X 87 51 (nI W.length)) 87 53 (nI (R.length + 1))) 112 (64 + b) ((nI (64 + d)))) 87 53 (nI R.length)) 111 (64 + b) ((nI (64 + c)))) wr R.length (nI (64 + b))) 112 j = if j = 64 + b then nI (64 + d) else X 112 j := fun j => by unfold rDoM; simp [zs_at]
                refine again (rDoM (zs (zs (zs (zs (zs X 87 51 (nI W.length)) 87 53 (nI (R.length + 1))) 112 (64 + b) ((nI (64 + d)))) 87 53 (nI R.length)) 111 (64 + b) ((nI (64 + c)))) wr R.length (nI (64 + b))) R _ hb1 (fun j hj => by rw [c111, if_neg hj]) (fun j hj => by rw [c112, if_neg hj]) (zPS_pop hP hk7 (Or.inr ⟨hk, c, d, eS1, by rw [c111, if_pos rfl], by rw [c112, if_pos rfl], fun j hj => by rw [c112, if_neg hj]⟩) (hb1.1 110 (by decide) (by decide) (by decide) (by decide) (by decide)) (fun j hj => by rw [c111, if_neg hj]) (hb1.1 113 (by decide) (by decide) (by decide) (by decide) (by decide)) (fun j => by unfold rDoM; simp [zs_at]) (hb1.1 117 (by decide) (by decide) (by decide) (by decide) (by decide)) (hb1.1 118 (by decide) (by decide) (by decide) (by decide) (by decide)) (fun j => by unfold rDoM; simp [zs_at]) ⟨by unfold rDoM; simp [zs_at], by unfold rDoM; simp [zs_at], by unfold rDoM; simp [zs_at], by unfold rDoM; simp [zs_at], by unfold rDoM; simp [zs_at]⟩).1 hR
  have hz : fWwL rk W.length M = fWw M rk := by
    unfold fWw
    rw [hP.1.1, zi_nI (by
      have := zOpn_le W
      have h1 := hP.2.2.1.2.2.1
      have h1b := hP.2.2.1.2.2.2
      have h2 := hP.2.2.2.2.2.2.2.1
      have h3 := hP.2.2.2.2.2.2.2.2.2.2
      omega)]
  exact key (fWw M rk) gi M wr dn W W [] M gi S wr dn none rfl (fun p hp => absurd hp (by simp)) ⟨fun _ _ _ _ _ _ => rfl, fun _ _ _ _ => rfl, fun _ _ _ _ _ => rfl⟩ (Nat.le_refl _) (zOld_rf _ _ _ _) hP hS hst hz
