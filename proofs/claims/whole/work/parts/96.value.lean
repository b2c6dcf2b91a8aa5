/-! ===== the readers: a value is read ===== -/
theorem rb_t {p : Prop} [Decidable p] (h : p) : zb p = nI 1 := if_pos h
theorem rb_f {p : Prop} [Decidable p] (h : ¬ p) : zb p = nI 0 := if_neg h
def rNnV (kd wh : Int32) : Int32 := if kd = nI 1 then (if wh = 0 then nI 8 else if wh < nI 10 then -1 else wh - nI 10) else -1
theorem nI_ne1 {k : Nat} (h : k < 2 ^ 31) : ¬ nI k = -1 := fun q => by
  have e : (nI k).toInt = (-1 : Int32).toInt := by rw [q]
  rw [nI_toInt h] at e
  have : (-1 : Int32).toInt = -1 := by decide
  omega
theorem nI_q {a b : Nat} (ha : a < 2 ^ 31) (hb : b < 2 ^ 31) (h : a ≠ b) : ¬ nI a = nI b := fun q => h (by rw [← zi_nI ha, ← zi_nI hb, q])
theorem nI_q0 {a : Nat} (ha : a < 2 ^ 31) (h : a ≠ 0) : ¬ nI a = 0 := nI_q (b := 0) ha (by decide) h
theorem zTe_val {kd wh kc vc : Int32} (h : zTe kd wh kc vc) : (kd = nI 3 ∧ wh = nI 40 ∧ kc = nI 7) ∨ (kd = nI 3 ∧ wh = nI 8 ∧ kc = nI 18) ∨ (kd = nI 1 ∧ wh = nI 9 ∧ kc = nI 10) ∨ (kd = nI 1 ∧ ¬ wh = nI 9 ∧ ∃ v, v < 11 ∧ rNnV kd wh = nI v ∧ kc = nI 4 ∧ vc = nI v) ∨ (kd = nI 2 ∧ kc = nI 3 ∧ zNv vc wh) ∨
    (¬ (kd = nI 3 ∧ wh = nI 40) ∧ ¬ (kd = nI 3 ∧ wh = nI 8) ∧ ¬ (kd = nI 1 ∧ wh = nI 9) ∧ ¬ kd = nI 2 ∧ rNnV kd wh = -1 ∧ ¬ kc = nI 3 ∧ ¬ kc = nI 4 ∧ ¬ kc = nI 7 ∧ ¬ kc = nI 18 ∧ ¬ kc = nI 10) := by
  rcases h with ⟨h1, h2⟩ | ⟨h1, h2⟩ | ⟨h1, h2, h3⟩ | ⟨h1, h2, h3⟩ | ⟨h1, k, hk, hw, h2⟩
  · subst h1 h2
    exact Or.inr (Or.inr (Or.inr (Or.inr (Or.inr ⟨fun q => absurd q.1 (by decide), fun q => absurd q.1 (by decide), fun q => absurd q.1 (by decide), by decide, by unfold rNnV; rw [if_neg (by decide)], by decide, by decide, by decide, by decide, by decide⟩))))
  · subst h1 h2
    exact Or.inr (Or.inr (Or.inr (Or.inr (Or.inr ⟨fun q => absurd q.1 (by decide), fun q => absurd q.1 (by decide), fun q => absurd q.1 (by decide), by decide, by unfold rNnV; rw [if_neg (by decide)], by decide, by decide, by decide, by decide, by decide⟩))))
  · exact Or.inr (Or.inr (Or.inr (Or.inr (Or.inl ⟨h1, h2, h3⟩))))
  · subst h1
    rcases h3 with ⟨w, w1, w2, w3, w4⟩ | ⟨w3, w4⟩ | ⟨w3, w4⟩ | ⟨w3, w4⟩ | ⟨w3, w4⟩
    · by_cases c : w = 8
      · subst c
        exact Or.inr (Or.inl ⟨rfl, w3, w4⟩)
      · subst w3 w4
        exact Or.inr (Or.inr (Or.inr (Or.inr (Or.inr ⟨fun q => absurd q.2 (nI_q (by omega) (by omega) (by omega)), fun q => absurd q.2 (nI_q (by omega) (by omega) c), fun q => absurd q.1 (by decide), by decide, by unfold rNnV; rw [if_neg (by decide)], nI_q (by omega) (by omega) (by omega), nI_q (by omega) (by omega) (by omega), nI_q (by omega) (by omega) (by omega), nI_q (by omega) (by omega) (by omega), nI_q (by omega) (by omega) (by omega)⟩))))
    · subst w3 w4
      exact Or.inr (Or.inr (Or.inr (Or.inr (Or.inr ⟨fun q => absurd q.2 (by decide), fun q => absurd q.2 (by decide), fun q => absurd q.1 (by decide), by decide, by unfold rNnV; rw [if_neg (by decide)], by decide, by decide, by decide, by decide, by decide⟩))))
    · exact Or.inl ⟨rfl, w3, w4⟩
    · subst w3 w4
      exact Or.inr (Or.inr (Or.inr (Or.inr (Or.inr ⟨fun q => absurd q.2 (by decide), fun q => absurd q.2 (by decide), fun q => absurd q.1 (by decide), by decide, by unfold rNnV; rw [if_neg (by decide)], by decide, by decide, by decide, by decide, by decide⟩))))
    · exact absurd w3 h2
  · subst h1
    have e1 : ∀ v, rNnV (nI 1) v = if v = 0 then nI 8 else if v < nI 10 then -1 else v - nI 10 := fun v => if_pos rfl
    rcases h2 with ⟨k1, k2, k3⟩ | ⟨k1, k2, k3⟩ | ⟨k1, k2, k3⟩ | ⟨k1, k2, k3⟩
    · subst hw k3
      exact Or.inr (Or.inr (Or.inr (Or.inr (Or.inr ⟨fun q => absurd q.1 (by decide), fun q => absurd q.1 (by decide), fun q => absurd q.2 (nI_q (by omega) (by omega) (by omega)), by decide, by rw [e1, if_neg (nI_q0 (a := k) (by omega) (by omega)), if_pos ((nI_ltI (by omega) (by omega)).mpr (by omega))], by decide, by decide, by decide, by decide, by decide⟩))))
    · by_cases c : k = 9
      · subst c
        exact Or.inr (Or.inr (Or.inl ⟨rfl, hw, k3⟩))
      · subst hw k3
        exact Or.inr (Or.inr (Or.inr (Or.inr (Or.inr ⟨fun q => absurd q.1 (by decide), fun q => absurd q.1 (by decide), fun q => absurd q.2 (nI_q (by omega) (by omega) c), by decide, by rw [e1, if_neg (nI_q0 (a := k) (by omega) (by omega)), if_pos ((nI_ltI (by omega) (by omega)).mpr (by omega))], nI_q (by omega) (by omega) (by omega), nI_q (by omega) (by omega) (by omega), nI_q (by omega) (by omega) (by omega), nI_q (by omega) (by omega) (by omega), nI_q (by omega) (by omega) (by omega)⟩))))
    · subst k1
      exact Or.inr (Or.inr (Or.inr (Or.inl ⟨rfl, by rw [hw]; decide, 8, by decide, by rw [e1, hw]; rfl, k2, k3⟩)))
    · refine Or.inr (Or.inr (Or.inr (Or.inl ⟨rfl, by rw [hw]; exact nI_q (by omega) (by omega) (by omega), k - 10, by omega, ?_, k2, k3⟩)))
      rw [e1, hw, if_neg (nI_q0 (a := k) (by omega) (by omega)), if_neg (fun q => by have := (nI_ltI (by omega) (by omega)).mp q; omega), pk_sub k1]
theorem zMn_nms {N X : zm_I} {l s0 wr kn kb : Nat} {W : List (Nat × Nat)} {S : List Nat} {dn : Nat → Nat} (hP : zPS N X l s0 wr kn kb W S dn) : fNms N ↔ zMn W = true := by
  have hl := (zPS_len hP).1
  have h3 := hP.1.1
  cases W with
  | nil => exact ⟨fun _ => rfl, fun _ => Or.inl h3⟩
  | cons p W =>
    have h49 : N 49 W.length = nI p.1 := hP.1.2.2.1.1
    have hk := hP.1.2.2.2.2 p List.mem_cons_self
    have h3' : N 42 3 = nI (W.length + 1) := h3
    have hl' : W.length + 1 ≤ 72 := hl
    have e0 : ¬ N 42 3 = 0 := by rw [h3']; exact nI_q (b := 0) (by omega) (by omega) (by omega)
    have e1 : zi (N 42 3) - 1 = W.length := by rw [h3', zi_nI (by omega)]; omega
    have e2 : fNms N ↔ ¬ fRank (nI 10) < fRank (nI p.1) := by
      show (N 42 3 = 0 ∨ ¬ fRank (nI 10) < fRank (N 49 (zi (N 42 3) - 1))) ↔ _
      rw [e1, h49]
      exact ⟨fun q => q.resolve_left e0, Or.inr⟩
    rw [e2]
    show _ ↔ decide (p.1 ≤ 10) = true
    rw [decide_eq_true_iff]
    obtain ⟨k, b⟩ := p
    have hk' : zKk k := hk
    show ¬ fRank (nI 10) < fRank (nI k) ↔ k ≤ 10
    rcases hk' with rfl | rfl | rfl | hk'
    · decide
    · decide
    · decide
    · rcases hk' with rfl | rfl | rfl | rfl | rfl | rfl | rfl | rfl | rfl | rfl | rfl | rfl | rfl <;> decide
theorem zStp_bd2 {n i l s0 wr : Nat} {dn : Nat → Nat} {M X X1 N : zm_I} {R : Bool × zm_I} {v : Bool} {w : Int32} {pl : Nat} (hF : zFrX X X1) (hR : R = (false, fFail N w)) (h2 : N 50 2 = nI pl) (h35 : X1 87 35 = nI pl) : zStp n i l s0 wr dn M X R v (nI 0) (rWrong X1 w) :=
  ⟨zFrX_tr hF (zFrX_wr X1 w), Or.inl ⟨by rw [hR], rfl, by rw [hR]; rfl, by rw [hR]; show X1 87 35 = N 50 2; rw [h35, h2]⟩⟩
/-- a number, a name -/
theorem zLeafS {M X X2 : zm_I} {n i l s0 wr kn : Nat} {W : List (Nat × Nat)} {S : List Nat} {dn : Nat → Nat} {pl nx pl2 nx2 kc : Nat} {kd wh w0 kd2 wh2 v : Int32} {R : Bool × zm_I} (hP : zPS M X l s0 wr kn kn W S dn) (hS : S.length = zTws W) (hc : X 87 56 = zb (zHc W = true) ∧ zCo X W) (hT : zTS n i M X pl nx kd wh) (hkd : ¬ kd = nI 0) (hkn : kn < 64) (hk : kc = 3 ∨ (kc = 4 ∧ zx v 11 ∧ (zi v = 10 → 2 ≤ l)))
    (hR : R = fWr (zs (fNx M) 43 8 (nI (kn + 1))) (nI kc) v) (h2 : X2 = zs (rGrM X kn (nI (rKd kc)) v) 87 57 (nI 0)) (ht : rTkP (X2 88) n nx w0 pl2 nx2 kd2 wh2) :
    zStp n i l s0 wr dn M X R false (nI 1) (rDoM (rTk X2 (nI pl2) (nI nx2) kd2 wh2) wr S.length (nI (64 + kn))) := by
  obtain ⟨hG, g1, g2⟩ := zPS_grow (nI (rKd kc)) v hkn (zPS_nx hP)
  have hx : ∀ a, a ≠ 87 → rTk X2 (nI pl2) (nI nx2) kd2 wh2 a = rGrM X kn (nI (rKd kc)) v a := fun a ha => by rw [rTk_nq _ _ _ _ _ ha, h2, zs_nq ha]
  have hj : ∀ j, 35 < j → j ≠ 57 → rTk X2 (nI pl2) (nI nx2) kd2 wh2 87 j = rGrM X kn (nI (rKd kc)) v 87 j := fun j hj h => by rw [rTk_j _ _ _ _ _ (by omega) (by omega) (by omega) (by omega), h2, zs_nj h]
  have hC := zPS_cgX (hj 51 (by decide) (by decide)) (hj 48 (by decide) (by decide)) (hj 47 (by decide) (by decide)) (hj 53 (by decide) (by decide)) (hj 55 (by decide) (by decide)) (fun a h1 h2 => hx a (by omega)) hG
  obtain ⟨hL, hwr⟩ := zPS_leaf rfl (by rw [hx 110 (by decide)]; exact g1) (by rw [hx 113 (by decide)]; exact g2) hk hC
  have hR2 := hR.trans (fWr_at hG.2.1.1 hwr (nI kc) v)
  have y : ∀ a, a ≠ 87 → a ≠ 114 → a ≠ 119 → rDoM (rTk X2 (nI pl2) (nI nx2) kd2 wh2) wr S.length (nI (64 + kn)) a = rGrM X kn (nI (rKd kc)) v a := fun a h1 h3 h4 => by unfold rDoM; rw [zs_nq h1, zs_nq h4, zs_nq h1, zs_nq h3, hx a h1]
  have yj : ∀ j, j ≠ 48 → j ≠ 53 → rDoM (rTk X2 (nI pl2) (nI nx2) kd2 wh2) wr S.length (nI (64 + kn)) 87 j = rTk X2 (nI pl2) (nI nx2) kd2 wh2 87 j := fun j h1 h3 => by unfold rDoM; rw [zs_nj h3, zs_nq (by decide), zs_nj h1, zs_nq (by decide)]
  have x120 : rDoM (rTk X2 (nI pl2) (nI nx2) kd2 wh2) wr S.length (nI (64 + kn)) 120 = X 120 := by rw [y 120 (by decide) (by decide) (by decide), rGr_q X _ _ _ (by omega)]
  have hold : ∀ a, a ≠ 87 → a ≠ 114 → a ≠ 119 → ∀ j, j ≠ 64 + kn → rDoM (rTk X2 (nI pl2) (nI nx2) kd2 wh2) wr S.length (nI (64 + kn)) a j = X a j := fun a h1 h3 h4 j h5 => by rw [y a h1 h3 h4, rGr_o X _ _ h1 h5]
  refine ⟨zFrX_tr (zFrX_tr (by rw [h2]; exact zFrX_tr (zFrX_gr _ _ _ _) (zFrX_87 _ 57 _ (by omega))) (zFrX_tk X2 _ _ _ _)) (zFrX_do _ _ _ _), Or.inr ⟨by rw [hR2], rfl, nx, wr + 1, kn + 1, W, kn :: S, _, (zTS_nx hT).2.2.2.2.2.2 hkd, by omega, ⟨by rw [hR2]; exact hL, ?_, ⟨?_, ?_⟩, ?_, fun h => absurd h Bool.false_ne_true, pl2, nx2, kd2, wh2, ?_⟩, ?_⟩⟩
  · show S.length + 1 = zTws W + 1
    rw [hS]
  · rw [yj 56 (by decide) (by decide), hj 56 (by decide) (by decide), rGr_j _ _ _ _ (by decide)]; exact hc.1
  · exact zCo_cg W (fun j _ => by rw [x120]) hc.2
  · rw [yj 57 (by decide) (by decide), rTk_j _ _ _ _ _ (by omega) (by omega) (by omega) (by omega), h2, zs_eq]
    rfl
  · rw [hR2]
    refine zTS_cgX (zTS_take (X2 := X2) hT ?_ ?_ ?_ ?_ ?_ ht) ?_ ?_ (yj 31 (by decide) (by decide)) (yj 35 (by decide) (by decide)) (yj 32 (by decide) (by decide)) (yj 33 (by decide) (by decide)) (yj 34 (by decide) (by decide))
    · show zs (zs (zs (zs (fNx M) 43 8 (nI (kn + 1))) 44 wr (nI kc)) 45 wr v) 42 5 (nI (wr + 1)) 50 = _
      rw [zs_nq (by decide), zs_nq (by decide), zs_nq (by decide), zs_nq (by decide)]
    · show zs (zs (zs (zs (fNx M) 43 8 (nI (kn + 1))) 44 wr (nI kc)) 45 wr v) 42 5 (nI (wr + 1)) 1 = _
      rw [zs_nq (by decide), zs_nq (by decide), zs_nq (by decide), zs_nq (by decide), fNx_q M (by decide)]
    · rw [h2, zs_nq (by decide), rGr_q X _ _ _ (by omega)]
    · rw [h2, zs_nq (by decide), rGr_q X _ _ _ (by omega)]
    · rw [h2, zs_nj (by decide), rGr_j _ _ _ _ (by decide)]
    · rw [y 88 (by decide) (by decide) (by decide), hx 88 (by decide)]
    · rw [y 106 (by decide) (by decide) (by decide), hx 106 (by decide)]
  · rw [hR2]
    refine ⟨fun j hj2 => ?_, fun c hc2 => ?_, zKf_of (fun j hj => by rw [yj j (by omega) (by omega), rTk_j _ _ _ _ _ (by omega) (by omega) (by omega) (by omega), h2, zs_nj (by omega), rGr_j _ _ _ _ (by omega)]) (fun j hj => by show zs (zs (zs (zs (fNx M) 43 8 (nI (kn + 1))) 44 wr (nI kc)) 45 wr v) 42 5 (nI (wr + 1)) 42 j = _; rw [zs_nj (by omega), zs_nq (by decide), zs_nq (by decide), zs_nq (by decide), fNx_q M (by decide)])⟩
    · have := (hP.2.2.2.2.2.1 j hj2).2
      exact ⟨if_neg (by omega), hold _ (by decide) (by decide) (by decide) _ (by omega), hold _ (by decide) (by decide) (by decide) _ (by omega), hold _ (by decide) (by decide) (by decide) _ (by omega), hold _ (by decide) (by decide) (by decide) _ (by omega)⟩
    · show zs (zs (zs (zs (fNx M) 43 8 (nI (kn + 1))) 44 wr (nI kc)) 45 wr v) 42 5 (nI (wr + 1)) 44 c = _ ∧ zs (zs (zs (zs (fNx M) 43 8 (nI (kn + 1))) 44 wr (nI kc)) 45 wr v) 42 5 (nI (wr + 1)) 45 c = _
      rw [zs_nq (by decide), zs_nq (by decide), zs_nj (by omega), zs_nq (by decide), zs_nq (by decide), zs_nj (by omega), zs_nq (by decide), zs_nq (by decide), fNx_q M (by decide), fNx_q M (by decide)]
      exact ⟨rfl, rfl⟩
/-- a bracket -/
theorem zOpenS {M X X3 : zm_I} {n i l s0 wr kn : Nat} {W : List (Nat × Nat)} {S : List Nat} {dn : Nat → Nat} {pl nx pl2 nx2 : Nat} {kd wh w0 kd2 wh2 : Int32} {R : Bool × zm_I} (hP : zPS M X l s0 wr kn kn W S dn) (hS : S.length = zTws W) (hc : X 87 56 = zb (zHc W = true) ∧ zCo X W) (h57 : X 87 57 = nI 1) (hT : zTS n i M X pl nx kd wh) (hkd : ¬ kd = nI 0) (ho : zOpn W < 8) (hR : R = fOb (fNx M))
    (h3 : X3 = zs (zs (rWfM (zs (zs X 120 (zOpn W) (X 87 56)) 87 55 (nI (zOpn W + 1))) W.length (nI 100) (-1)) 87 56 (nI 0)) 87 58 (nI 1)) (ht : rTkP (X3 88) n nx w0 pl2 nx2 kd2 wh2) :
    zStp n i l s0 wr dn M X R true (nI 1) (rTk X3 (nI pl2) (nI nx2) kd2 wh2) := by
  have hN := zPS_nx hP
  have hQ : zPS (fNx M) (zs X 120 (zOpn W) (X 87 56)) l s0 wr kn kn W S dn := zPS_cgX (X := X) rfl rfl rfl rfl rfl (fun a h1 h2 => zs_nq (by omega)) hN
  have hO := zPS_open ho hQ
  have hlen : W.length < 72 := by
    have h1 := hP.2.2.2.2.2.2.2.1
    have h4 := hP.2.2.1.2.2.1
    omega
  have hR2 : R = (true, zs (zs (zs (fNx M) 42 4 (nI (zOpn W + 1))) 49 W.length (nI 7)) 42 3 (nI (W.length + 1))) := by
    rw [hR]
    unfold fOb
    rw [hN.2.2.2.2.2.2.2.2.1, if_pos ((nI_ltI (by omega) (by omega)).mpr ho), nI_add]
    exact fPw_at ((zs_nj (by decide)).trans hN.1.1) hlen _
  have hx : ∀ a, a ≠ 87 → rTk X3 (nI pl2) (nI nx2) kd2 wh2 a = rWfM (zs (zs X 120 (zOpn W) (X 87 56)) 87 55 (nI (zOpn W + 1))) W.length (nI 100) (-1) a := fun a ha => by rw [rTk_nq _ _ _ _ _ ha, h3, zs_nq ha, zs_nq ha]
  have hj : ∀ j, 35 < j → j ≠ 56 → j ≠ 58 → rTk X3 (nI pl2) (nI nx2) kd2 wh2 87 j = rWfM (zs (zs X 120 (zOpn W) (X 87 56)) 87 55 (nI (zOpn W + 1))) W.length (nI 100) (-1) 87 j := fun j hj h h5 => by rw [rTk_j _ _ _ _ _ (by omega) (by omega) (by omega) (by omega), h3, zs_nj h5, zs_nj h]
  have hq : ∀ a, a ≠ 87 → a ≠ 117 → a ≠ 118 → a ≠ 120 → rTk X3 (nI pl2) (nI nx2) kd2 wh2 a = X a := fun a h1 h2 h4 h5 => by rw [hx a h1, rWf_q _ _ _ _ h1 h2 h4, zs_nq h1, zs_nq h5]
  have x120 : ∀ j, rTk X3 (nI pl2) (nI nx2) kd2 wh2 120 j = if j = zOpn W then X 87 56 else X 120 j := fun j => by rw [hx 120 (by decide), rWf_q _ _ _ _ (by decide) (by decide) (by decide), zs_nq (by decide), zs_at]; simp
  refine ⟨zFrX_tr (by rw [h3]; exact zFrX_tr (zFrX_tr (zFrX_tr (zFrX_tr (zFrX_hi X 120 _ _ (by omega)) (zFrX_87 _ 55 _ (by omega))) (zFrX_wf _ _ _ _)) (zFrX_87 _ 56 _ (by omega))) (zFrX_87 _ 58 _ (by omega))) (zFrX_tk X3 _ _ _ _), Or.inr ⟨by rw [hR2], rfl, nx, wr, kn, (7, 0) :: W, S, dn, (zTS_nx hT).2.2.2.2.2.2 hkd, Nat.le_refl _, ⟨by rw [hR2]; exact zPS_cgX (hj 51 (by decide) (by decide) (by decide)) (hj 48 (by decide) (by decide) (by decide)) (hj 47 (by decide) (by decide) (by decide)) (hj 53 (by decide) (by decide) (by decide)) (hj 55 (by decide) (by decide) (by decide)) (fun a h1 h2 => hx a (by omega)) hO, ?_, ⟨?_, ?_, ?_⟩, ?_, fun _ => ?_, pl2, nx2, kd2, wh2, ?_⟩, ?_⟩⟩
  · exact hS
  · rw [rTk_j _ _ _ _ _ (by omega) (by omega) (by omega) (by omega), h3, zs_nj (by decide), zs_eq, zHc_lo (by omega)]
    rfl
  · intro _
    rw [x120, if_pos rfl]; exact hc.1
  · exact zCo_cg W (fun j hj => by rw [x120, if_neg (by omega)]) hc.2
  · rw [hj 57 (by decide) (by decide) (by decide), rWf_j _ _ _ _ (by decide), zs_nj (by decide), zs_nq (by decide)]; exact h57
  · rw [rTk_j _ _ _ _ _ (by omega) (by omega) (by omega) (by omega), h3, zs_eq]
    rfl
  · rw [hR2]
    refine zTS_take (X2 := X3) hT ?_ ?_ ?_ ?_ ?_ ht
    · show zs (zs (zs (fNx M) 42 4 (nI (zOpn W + 1))) 49 W.length (nI 7)) 42 3 (nI (W.length + 1)) 50 = _
      rw [zs_nq (by decide), zs_nq (by decide), zs_nq (by decide)]
    · show zs (zs (zs (fNx M) 42 4 (nI (zOpn W + 1))) 49 W.length (nI 7)) 42 3 (nI (W.length + 1)) 1 = _
      rw [zs_nq (by decide), zs_nq (by decide), zs_nq (by decide), fNx_q M (by decide)]
    · have := hq 88 (by decide) (by decide) (by decide) (by decide)
      rwa [rTk_nq _ _ _ _ _ (by decide)] at this
    · have := hq 106 (by decide) (by decide) (by decide) (by decide)
      rwa [rTk_nq _ _ _ _ _ (by decide)] at this
    · rw [h3, zs_nj (by decide), zs_nj (by decide), rWf_j _ _ _ _ (by decide), zs_nj (by decide), zs_nq (by decide)]
  · rw [hR2]
    refine ⟨fun j _ => by rw [hq 110 (by decide) (by decide) (by decide) (by decide), hq 111 (by decide) (by decide) (by decide) (by decide), hq 112 (by decide) (by decide) (by decide) (by decide), hq 113 (by decide) (by decide) (by decide) (by decide)]; exact ⟨rfl, rfl, rfl, rfl, rfl⟩, fun c _ => ?_, zKf_of (fun j hj => by rw [rTk_j _ _ _ _ _ (by omega) (by omega) (by omega) (by omega), h3, zs_nj (by omega), zs_nj (by omega), rWf_j _ _ _ _ (by omega), zs_nj (by omega), zs_nq (by decide)]) (fun j hj => by show zs (zs (zs (fNx M) 42 4 (nI (zOpn W + 1))) 49 W.length (nI 7)) 42 3 (nI (W.length + 1)) 42 j = _; rw [zs_nj (by omega), zs_nq (by decide), zs_nj (by omega), fNx_q M (by decide)])⟩
    show zs (zs (zs (fNx M) 42 4 (nI (zOpn W + 1))) 49 W.length (nI 7)) 42 3 (nI (W.length + 1)) 44 c = _ ∧ zs (zs (zs (fNx M) 42 4 (nI (zOpn W + 1))) 49 W.length (nI 7)) 42 3 (nI (W.length + 1)) 45 c = _
    rw [zs_nq (by decide), zs_nq (by decide), zs_nq (by decide), zs_nq (by decide), zs_nq (by decide), zs_nq (by decide), fNx_q M (by decide), fNx_q M (by decide)]
    exact ⟨rfl, rfl⟩
