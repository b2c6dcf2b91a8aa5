/-! what the readers' steps do to the state -/
theorem zPS_cgM {M M' X : zm_I} {l s0 wr kn kb : Nat} {W : List (Nat × Nat)} {S : List Nat} {dn : Nat → Nat} (h3 : M' 42 3 = M 42 3) (h4 : M' 42 4 = M 42 4) (h5 : M' 42 5 = M 42 5) (h8 : M' 43 8 = M 43 8) (h44 : M' 44 = M 44) (h45 : M' 45 = M 45) (h49 : M' 49 = M 49) (hP : zPS M X l s0 wr kn kb W S dn) : zPS M' X l s0 wr kn kb W S dn := by
  obtain ⟨⟨a1, a2, a3, a4, a5⟩, ⟨b1, b2, b3⟩, ⟨c1, c2, c3, c4⟩, ⟨d1, d2, d3⟩, e1, e2, ⟨f1, f2⟩, g1, g2, g3, g4⟩ := hP
  exact ⟨⟨h3.trans a1, a2, zWM_cg W (fun j _ => by rw [h49]) a3, a4, a5⟩, ⟨h5.trans b1, b2, b3⟩, ⟨h8.trans c1, c2, c3, c4⟩, ⟨d1, d2, zTD_cg (fun c _ => by rw [h44, h45]; exact ⟨rfl, rfl⟩) (fun i _ _ => ⟨rfl, rfl, rfl, rfl⟩) d3⟩, e1, e2, ⟨f1, f2⟩, g1, h4.trans g2, g3, g4⟩
theorem zPS_cgX {M X X' : zm_I} {l s0 wr kn kb : Nat} {W : List (Nat × Nat)} {S : List Nat} {dn : Nat → Nat} (h51 : X' 87 51 = X 87 51) (h48 : X' 87 48 = X 87 48) (h47 : X' 87 47 = X 87 47) (h53 : X' 87 53 = X 87 53) (h55 : X' 87 55 = X 87 55) (hx : ∀ a, 110 ≤ a → a ≤ 119 → X' a = X a) (hP : zPS M X l s0 wr kn kb W S dn) : zPS M X' l s0 wr kn kb W S dn := by
  obtain ⟨⟨a1, a2, a3, a4, a5⟩, ⟨b1, b2, b3⟩, ⟨c1, c2, c3, c4⟩, ⟨d1, d2, d3⟩, e1, e2, ⟨f1, f2⟩, g1, g2, g3, g4⟩ := hP
  refine ⟨⟨a1, h51.trans a2, a3, zWX_cg W (fun j _ => by rw [hx 117 (by decide) (by decide), hx 118 (by decide) (by decide)]; exact ⟨rfl, rfl⟩) a4, a5⟩, ⟨b1, h48.trans b2, b3⟩, ⟨c1, h47.trans c2, c3, c4⟩, ⟨h53.trans d1, zHl_cg S (fun j _ => by rw [hx 119 (by decide) (by decide)]) d2, zTD_cg (fun c _ => ⟨rfl, rfl⟩) (fun i _ _ => by rw [hx 110 (by decide) (by decide), hx 111 (by decide) (by decide), hx 112 (by decide) (by decide), hx 113 (by decide) (by decide)]; exact ⟨rfl, rfl, rfl, rfl⟩) d3⟩, e1, fun i hi => by rw [hx 114 (by decide) (by decide)]; exact e2 i hi, ⟨fun p hp h7 => ?_, f2⟩, g1, g2, h55.trans g3, g4⟩
  rw [hx 110 (by decide) (by decide)]
  exact f1 p hp h7
theorem zPS_grow {M X : zm_I} {l s0 wr kn : Nat} {W : List (Nat × Nat)} {S : List Nat} {dn : Nat → Nat} (k v : Int32) (hk : kn < 64) (hP : zPS M X l s0 wr kn kn W S dn) : zPS (zs M 43 8 (nI (kn + 1))) (rGrM X kn k v) l s0 wr (kn + 1) kn W S dn ∧ rGrM X kn k v 110 (64 + kn) = k ∧ rGrM X kn k v 113 (64 + kn) = v := by
  obtain ⟨⟨a1, a2, a3, a4, a5⟩, ⟨b1, b2, b3⟩, ⟨c1, c2, c3, c4⟩, ⟨d1, d2, d3⟩, e1, e2, ⟨f1, f2⟩, g1, g2, g3, g4⟩ := hP
  have x0 : ∀ j, j ≠ 64 + kn → rGrM X kn k v 110 j = X 110 j := fun j hj => by unfold rGrM; rw [zs_nq (by decide), zs_nq (by decide), zs_nq (by decide), zs_nj hj, zs_nq (by decide)]
  have x1 : ∀ j, j ≠ 64 + kn → rGrM X kn k v 111 j = X 111 j := fun j hj => by unfold rGrM; rw [zs_nq (by decide), zs_nq (by decide), zs_nj hj, zs_nq (by decide), zs_nq (by decide)]
  have x2 : ∀ j, j ≠ 64 + kn → rGrM X kn k v 112 j = X 112 j := fun j hj => by unfold rGrM; rw [zs_nq (by decide), zs_nj hj, zs_nq (by decide), zs_nq (by decide), zs_nq (by decide)]
  have x3 : ∀ j, j ≠ 64 + kn → rGrM X kn k v 113 j = X 113 j := fun j hj => by unfold rGrM; rw [zs_nj hj, zs_nq (by decide), zs_nq (by decide), zs_nq (by decide), zs_nq (by decide)]
  have xq : ∀ a, a ≠ 87 → a ≠ 110 → a ≠ 111 → a ≠ 112 → a ≠ 113 → rGrM X kn k v a = X a := fun a h1 h2 h3 h4 h5 => by unfold rGrM; rw [zs_nq h5, zs_nq h4, zs_nq h3, zs_nq h2, zs_nq h1]
  have x87 : ∀ j, j ≠ 47 → rGrM X kn k v 87 j = X 87 j := fun j hj => by unfold rGrM; rw [zs_nq (by decide), zs_nq (by decide), zs_nq (by decide), zs_nq (by decide), zs_nj hj]
  refine ⟨⟨⟨a1, (x87 51 (by decide)).trans a2, zWM_cg (M := M) W (fun j _ => by first | rfl | (rw [zs_nq (by decide)]) | (rw [zs_nq (by decide), zs_nq (by decide), zs_nq (by decide)])) a3, zWX_cg W (fun j _ => by rw [xq 117 (by decide) (by decide) (by decide) (by decide) (by decide), xq 118 (by decide) (by decide) (by decide) (by decide) (by decide)]; exact ⟨rfl, rfl⟩) a4, a5⟩, ⟨b1, (x87 48 (by decide)).trans b2, b3⟩, ⟨zs_eq _ _ _ _, ?_, by omega, by omega⟩, ⟨(x87 53 (by decide)).trans d1, zHl_cg S (fun j _ => by rw [xq 119 (by decide) (by decide) (by decide) (by decide) (by decide)]) d2, zTD_cg (fun c _ => ⟨rfl, rfl⟩) (fun i h1 h2 => ?_) d3⟩, e1, fun i hi => by rw [xq 114 (by decide) (by decide) (by decide) (by decide) (by decide)]; exact e2 i hi, ⟨fun p hp h7 => ?_, f2⟩, g1, g2, (x87 55 (by decide)).trans g3, g4⟩, ?_, ?_⟩
  · unfold rGrM
    rw [zs_nq (by decide), zs_nq (by decide), zs_nq (by decide), zs_nq (by decide), zs_eq]
  · have := (e2 i (by omega)).2
    exact ⟨x0 _ (by omega), x1 _ (by omega), x2 _ (by omega), x3 _ (by omega)⟩
  · obtain ⟨r1, r2, r3, r4⟩ := f1 p hp h7
    exact ⟨r1, r2, r3, by rw [x0 _ (by omega)]; exact r4⟩
  · unfold rGrM
    rw [zs_nq (by decide), zs_nq (by decide), zs_nq (by decide), zs_eq]
  · unfold rGrM
    rw [zs_eq]
theorem zPS_len {M X : zm_I} {l s0 wr kn kb : Nat} {W : List (Nat × Nat)} {S : List Nat} {dn : Nat → Nat} (hP : zPS M X l s0 wr kn kb W S dn) : W.length ≤ 72 ∧ wr ≤ kb := by
  have h1 := hP.2.2.1.2.2.1
  have h2 := hP.2.2.1.2.2.2
  have h3 := hP.2.2.2.2.2.2.2.1
  have h4 := hP.2.2.2.2.2.2.2.2.2.2
  have h5 := zOpn_le W
  exact ⟨by omega, by omega⟩
/-- a kind waits -/
theorem zPS_wait {M X : zm_I} {l s0 wr kn kb k : Nat} {W : List (Nat × Nat)} {S : List Nat} {dn : Nat → Nat} (hkb : kb + 1 = kn) (hk : zKk k) (hk7 : k ≠ 7) (hx : X 110 (64 + kb) = nI (rKd k)) (hP : zPS M X l s0 wr kn kb W S dn) :
    zPS (zs (zs M 49 W.length (nI k)) 42 3 (nI (W.length + 1))) (rWfM X W.length (nI (rKd k)) (nI (64 + kb))) l s0 wr kn kn ((k, kb) :: W) S dn := by
  have hl := zPS_len hP
  obtain ⟨⟨a1, a2, a3, a4, a5⟩, ⟨b1, b2, b3⟩, ⟨c1, c2, c3, c4⟩, ⟨d1, d2, d3⟩, e1, e2, ⟨f1, f2⟩, g1, g2, g3, g4⟩ := hP
  have hop : zOpn ((k, kb) :: W) = zOpn W := by
    show zOpn W + (if k = 7 then 1 else 0) = zOpn W
    rw [if_neg hk7, Nat.add_zero]
  have xq : ∀ a, a ≠ 87 → a ≠ 117 → a ≠ 118 → rWfM X W.length (nI (rKd k)) (nI (64 + kb)) a = X a := fun a h1 h2 h3 => by unfold rWfM; rw [zs_nq h1, zs_nq h3, zs_nq h2]
  have x87 : ∀ j, j ≠ 51 → rWfM X W.length (nI (rKd k)) (nI (64 + kb)) 87 j = X 87 j := fun j hj => by unfold rWfM; rw [zs_nj hj, zs_nq (by decide), zs_nq (by decide)]
  have x117 : ∀ j, rWfM X W.length (nI (rKd k)) (nI (64 + kb)) 117 j = if j = W.length then nI (rKd k) else X 117 j := fun j => by unfold rWfM; simp [zs_at]
  have x118 : ∀ j, rWfM X W.length (nI (rKd k)) (nI (64 + kb)) 118 j = if j = W.length then nI (64 + kb) else X 118 j := fun j => by unfold rWfM; simp [zs_at]
  have m49 : ∀ j, zs (zs M 49 W.length (nI k)) 42 3 (nI (W.length + 1)) 49 j = if j = W.length then nI k else M 49 j := fun j => by simp [zs_at]
  refine ⟨⟨zs_eq _ _ _ _, ?_, ⟨by rw [m49, if_pos rfl], zWM_cg W (fun j hj => by rw [m49, if_neg (by omega)]) a3⟩, ⟨?_, fun _ => by rw [x118, if_pos rfl], zWX_cg W (fun j hj => by rw [x117, x118, if_neg (by omega), if_neg (by omega)]; exact ⟨rfl, rfl⟩) a4⟩, fun p hp => ?_⟩, ⟨(zs_nj (by decide)).trans b1, (x87 48 (by decide)).trans b2, b3⟩, ⟨c1, (x87 47 (by decide)).trans c2, c3, Nat.le_refl _⟩, ⟨(x87 53 (by decide)).trans d1, zHl_cg S (fun j _ => by rw [xq 119 (by decide) (by decide) (by decide)]) d2, zTD_cg (fun c _ => ⟨rfl, rfl⟩) (fun i _ _ => by rw [xq 110 (by decide) (by decide) (by decide), xq 111 (by decide) (by decide) (by decide), xq 112 (by decide) (by decide) (by decide), xq 113 (by decide) (by decide) (by decide)]; exact ⟨rfl, rfl, rfl, rfl⟩) d3⟩, fun a ha => by have := e1 a ha; omega, fun i hi => by rw [xq 114 (by decide) (by decide) (by decide)]; exact ⟨(e2 i hi).1, by have := (e2 i hi).2; omega⟩, ⟨fun p hp h7 => ?_, fun _ q hq h7 => ?_, f2⟩, ?_, ?_, ?_, ?_⟩
  · unfold rWfM
    rw [zs_eq]
    rfl
  · rw [x117, if_pos rfl]
    show nI (rKd k) = nI (if k = 7 then 100 else rKd k)
    rw [if_neg hk7]
  · rcases List.mem_cons.mp hp with h | h
    · rw [h]; exact hk
    · exact a5 p h
  · rw [xq 110 (by decide) (by decide) (by decide)]
    rcases List.mem_cons.mp hp with h | h
    · rw [h]
      exact ⟨by show kb < kn; omega, fun z => by have := e1 kb z; omega, fun i hi => by have := (e2 i hi).2; show dn i ≠ kb; omega, hx⟩
    · obtain ⟨r1, r2, r3, r4⟩ := f1 p h h7
      exact ⟨by omega, r2, r3, r4⟩
  · have := (f1 q hq h7).1
    show q.2 ≠ kb
    omega
  · show W.length + 1 + wr = kn + zOpn ((k, kb) :: W)
    rw [hop]
    omega
  · rw [hop, zs_nj (by decide), zs_nq (by decide)]; exact g2
  · rw [hop]; exact (x87 55 (by decide)).trans g3
  · rw [hop]; exact g4
/-- a bracket is opened -/
theorem zPS_open {M X : zm_I} {l s0 wr kn kb : Nat} {W : List (Nat × Nat)} {S : List Nat} {dn : Nat → Nat} (ho : zOpn W < 8) (hP : zPS M X l s0 wr kn kb W S dn) :
    zPS (zs (zs (zs M 42 4 (nI (zOpn W + 1))) 49 W.length (nI 7)) 42 3 (nI (W.length + 1))) (rWfM (zs X 87 55 (nI (zOpn W + 1))) W.length (nI 100) (-1)) l s0 wr kn kb ((7, 0) :: W) S dn := by
  have hl := zPS_len hP
  obtain ⟨⟨a1, a2, a3, a4, a5⟩, ⟨b1, b2, b3⟩, ⟨c1, c2, c3, c4⟩, ⟨d1, d2, d3⟩, e1, e2, ⟨f1, f2⟩, g1, g2, g3, g4⟩ := hP
  have hop : zOpn ((7, 0) :: W) = zOpn W + 1 := rfl
  have xq : ∀ a, a ≠ 87 → a ≠ 117 → a ≠ 118 → rWfM (zs X 87 55 (nI (zOpn W + 1))) W.length (nI 100) (-1) a = X a := fun a h1 h2 h3 => by unfold rWfM; rw [zs_nq h1, zs_nq h3, zs_nq h2, zs_nq h1]
  have x87 : ∀ j, j ≠ 51 → j ≠ 55 → rWfM (zs X 87 55 (nI (zOpn W + 1))) W.length (nI 100) (-1) 87 j = X 87 j := fun j hj h5 => by unfold rWfM; rw [zs_nj hj, zs_nq (by decide), zs_nq (by decide), zs_nj h5]
  have x117 : ∀ j, rWfM (zs X 87 55 (nI (zOpn W + 1))) W.length (nI 100) (-1) 117 j = if j = W.length then nI 100 else X 117 j := fun j => by unfold rWfM; simp [zs_at]
  have x118 : ∀ j, j ≠ W.length → rWfM (zs X 87 55 (nI (zOpn W + 1))) W.length (nI 100) (-1) 118 j = X 118 j := fun j hj => by unfold rWfM; simp [zs_at, hj]
  have m49 : ∀ j, zs (zs (zs M 42 4 (nI (zOpn W + 1))) 49 W.length (nI 7)) 42 3 (nI (W.length + 1)) 49 j = if j = W.length then nI 7 else M 49 j := fun j => by simp [zs_at]
  refine ⟨⟨zs_eq _ _ _ _, ?_, ⟨by rw [m49, if_pos rfl], zWM_cg W (fun j hj => by rw [m49, if_neg (by omega)]) a3⟩, ⟨by rw [x117, if_pos rfl]; rfl, fun h => absurd rfl h, zWX_cg W (fun j hj => by rw [x117, x118 j (by omega), if_neg (by omega)]; exact ⟨rfl, rfl⟩) a4⟩, fun p hp => ?_⟩, ⟨?_, (x87 48 (by decide) (by decide)).trans b2, b3⟩, ⟨c1, (x87 47 (by decide) (by decide)).trans c2, c3, c4⟩, ⟨(x87 53 (by decide) (by decide)).trans d1, zHl_cg S (fun j _ => by rw [xq 119 (by decide) (by decide) (by decide)]) d2, zTD_cg (fun c _ => ⟨rfl, rfl⟩) (fun i _ _ => by rw [xq 110 (by decide) (by decide) (by decide), xq 111 (by decide) (by decide) (by decide), xq 112 (by decide) (by decide) (by decide), xq 113 (by decide) (by decide) (by decide)]; exact ⟨rfl, rfl, rfl, rfl⟩) d3⟩, e1, fun i hi => by rw [xq 114 (by decide) (by decide) (by decide)]; exact e2 i hi, ⟨fun p hp h7 => ?_, fun h => absurd rfl h, f2⟩, ?_, ?_, ?_, by rw [hop]; omega⟩
  · unfold rWfM
    rw [zs_eq]
    rfl
  · rcases List.mem_cons.mp hp with h | h
    · rw [h]; exact Or.inl rfl
    · exact a5 p h
  · rw [zs_nj (by decide), zs_nq (by decide), zs_nj (by decide)]; exact b1
  · rw [xq 110 (by decide) (by decide) (by decide)]
    rcases List.mem_cons.mp hp with h | h
    · rw [h] at h7; exact absurd rfl h7
    · exact f1 p h h7
  · show W.length + 1 + wr = kb + zOpn ((7, 0) :: W)
    rw [hop]
    omega
  · rw [hop, zs_nj (by decide), zs_nq (by decide), zs_eq]
  · rw [hop]
    unfold rWfM
    rw [zs_nj (by decide), zs_nq (by decide), zs_nq (by decide), zs_eq]
/-- a number or a name is written -/
theorem zPS_leaf {M X : zm_I} {l s0 wr kn kb kc : Nat} {v : Int32} {W : List (Nat × Nat)} {S : List Nat} {dn : Nat → Nat} (hkb : kb + 1 = kn) (hx : X 110 (64 + kb) = nI (rKd kc)) (hx3 : X 113 (64 + kb) = v) (hk : kc = 3 ∨ (kc = 4 ∧ zx v 11 ∧ (zi v = 10 → 2 ≤ l))) (hP : zPS M X l s0 wr kn kb W S dn) :
    zPS (zs (zs (zs M 44 wr (nI kc)) 45 wr v) 42 5 (nI (wr + 1))) (rDoM X wr S.length (nI (64 + kb))) l s0 (wr + 1) kn kn W (kb :: S) (fun i => if i = wr then kb else dn i) ∧ wr < 64 := by
  have hl := zPS_len hP
  obtain ⟨⟨a1, a2, a3, a4, a5⟩, ⟨b1, b2, b3⟩, ⟨c1, c2, c3, c4⟩, ⟨d1, d2, d3⟩, e1, e2, ⟨f1, f2⟩, g1, g2, g3, g4⟩ := hP
  have xq : ∀ a, a ≠ 87 → a ≠ 114 → a ≠ 119 → rDoM X wr S.length (nI (64 + kb)) a = X a := fun a h1 h2 h3 => by unfold rDoM; rw [zs_nq h1, zs_nq h3, zs_nq h1, zs_nq h2]
  have x87 : ∀ j, j ≠ 48 → j ≠ 53 → rDoM X wr S.length (nI (64 + kb)) 87 j = X 87 j := fun j h1 h2 => by unfold rDoM; rw [zs_nj h2, zs_nq (by decide), zs_nj h1, zs_nq (by decide)]
  have x114 : ∀ j, rDoM X wr S.length (nI (64 + kb)) 114 j = if j = 64 + wr then nI (64 + kb) else X 114 j := fun j => by unfold rDoM; simp [zs_at]
  have x119 : ∀ j, rDoM X wr S.length (nI (64 + kb)) 119 j = if j = S.length then nI (64 + kb) else X 119 j := fun j => by unfold rDoM; simp [zs_at]
  have m44 : ∀ c, zs (zs (zs M 44 wr (nI kc)) 45 wr v) 42 5 (nI (wr + 1)) 44 c = if c = wr then nI kc else M 44 c := fun c => by simp [zs_at]
  have m45 : ∀ c, zs (zs (zs M 44 wr (nI kc)) 45 wr v) 42 5 (nI (wr + 1)) 45 c = if c = wr then v else M 45 c := fun c => by simp [zs_at]
  have hT0 : zTD (zs (zs (zs M 44 wr (nI kc)) 45 wr v) 42 5 (nI (wr + 1))) (rDoM X wr S.length (nI (64 + kb))) l s0 (wr - s0) dn S := zTD_cg (fun c hc => ⟨by rw [m44, if_neg (by omega)], by rw [m45, if_neg (by omega)]⟩) (fun i _ _ => by rw [xq 110 (by decide) (by decide) (by decide), xq 111 (by decide) (by decide) (by decide), xq 112 (by decide) (by decide) (by decide), xq 113 (by decide) (by decide) (by decide)]; exact ⟨rfl, rfl, rfl, rfl⟩) d3
  have hzk : rKd (zi (nI kc)) = rKd kc := by rw [zi_nI (by omega)]
  have hnd : zND (zs (zs (zs M 44 wr (nI kc)) 45 wr v) 42 5 (nI (wr + 1))) (rDoM X wr S.length (nI (64 + kb))) l (s0 + (wr - s0)) kb S (kb :: S) := by
    rw [show s0 + (wr - s0) = wr by omega]
    unfold zND
    rw [m44, m45, if_pos rfl, if_pos rfl, hzk, xq 110 (by decide) (by decide) (by decide), xq 113 (by decide) (by decide) (by decide)]
    refine ⟨by omega, fun z => by have := e1 kb z; omega, hx, ?_⟩
    rcases hk with h | ⟨h, h2, h3⟩
    · exact Or.inl ⟨by rw [h], hx3, rfl⟩
    · exact Or.inr (Or.inl ⟨by rw [h], hx3, h2, h3, rfl⟩)
  have hT1 := zTD_more hT0 hnd
  rw [show wr - s0 + 1 = wr + 1 - s0 by omega, show s0 + (wr - s0) = wr by omega] at hT1
  refine ⟨⟨⟨(zs_nj (by decide)).trans a1, (x87 51 (by decide) (by decide)).trans a2, zWM_cg (M := M) W (fun j _ => by first | rfl | (rw [zs_nq (by decide)]) | (rw [zs_nq (by decide), zs_nq (by decide), zs_nq (by decide)])) a3, zWX_cg W (fun j _ => by rw [xq 117 (by decide) (by decide) (by decide), xq 118 (by decide) (by decide) (by decide)]; exact ⟨rfl, rfl⟩) a4, a5⟩, ⟨zs_eq _ _ _ _, ?_, by omega⟩, ⟨c1, (x87 47 (by decide) (by decide)).trans c2, c3, Nat.le_refl _⟩, ⟨?_, ⟨by rw [x119, if_pos rfl], zHl_cg S (fun j hj => by rw [x119, if_neg (by omega)]) d2⟩, hT1⟩, fun a ha => ?_, fun i hi => ?_, ⟨fun p hp h7 => ?_, f2⟩, by omega, (zs_nj (by decide)).trans g2, (x87 55 (by decide) (by decide)).trans g3, g4⟩, by omega⟩
  · unfold rDoM
    rw [zs_nj (by decide), zs_nq (by decide), zs_eq]
  · unfold rDoM
    rw [zs_eq]
    rfl
  · rcases List.mem_cons.mp ha with h | h
    · omega
    · have := e1 a h
      omega
  · show rDoM X wr S.length (nI (64 + kb)) 114 (64 + i) = nI (64 + (if i = wr then kb else dn i)) ∧ (if i = wr then kb else dn i) < kn
    rw [x114]
    by_cases c : i = wr
    · rw [if_pos (by omega), if_pos c]
      exact ⟨rfl, by omega⟩
    · rw [if_neg (by omega), if_neg c]
      have := e2 i (by omega)
      exact ⟨this.1, by omega⟩
  · obtain ⟨r1, r2, r3, r4⟩ := f1 p hp h7
    refine ⟨by omega, fun z => ?_, fun i hi => ?_, by rw [xq 110 (by decide) (by decide) (by decide)]; exact r4⟩
    · rcases List.mem_cons.mp z with h | h
      · omega
      · exact r2 h
    · show (if i = wr then kb else dn i) ≠ p.2
      split
      · omega
      · exact r3 i (by omega)
