/-! ===== a whole run in class and reference ===== -/
def zKp (Pn : Nat) (D : zm_I) : Prop := D 66 3 = nI 0 ∧ ∀ p, p < Pn → D 71 p = -1 ∨ zx (D 71 p) 4
def zVS (W Pn E n : Nat) (sh : Int32) (gi : zm_I) (dn : Nat → Prop) (D X : zm_I) : Prop :=
  zDR W Pn D X ∧ zNR D X ∧ zXg gi X ∧ X 87 66 = sh ∧ (∀ e k, e < E → dn e → k < 7 → X 130 (7 * e + k) = D (59 + k) e) ∧ (∀ v n', v < W → n' < n → X 131 (4 * v + n') = D 68 (v * 4 + n')) ∧ zKp Pn D
def zKe (e : Nat) (D D' : zm_I) : Prop := D' 68 = D 68 ∧ D' 71 = D 71 ∧ D' 66 3 = D 66 3 ∧ ∀ k e', k < 7 → e' ≠ e → D' (59 + k) e' = D (59 + k) e'
theorem zKe_forget (C : zm_I) (e : Nat) : zKe e C (fForget C e) := by
  refine ⟨fForget_row C e (by omega), fForget_row C e (by omega), by rw [fForget_row C e (by omega)], fun k e' hk he => ?_⟩
  unfold fForget
  rcases (show k = 0 ∨ k = 1 ∨ k = 2 ∨ k = 3 ∨ k = 4 ∨ k = 5 ∨ k = 6 by omega) with rfl | rfl | rfl | rfl | rfl | rfl | rfl <;> simp [zs_at, he]
theorem zKe_tr {e : Nat} {A B D : zm_I} (h : zKe e A B) (h2 : zKe e B D) : zKe e A D := ⟨h2.1.trans h.1, h2.2.1.trans h.2.1, h2.2.2.1.trans h.2.2.1, fun k e' hk he => (h2.2.2.2 k e' hk he).trans (h.2.2.2 k e' hk he)⟩
theorem zKe_59 (C : zm_I) (e : Nat) (c : Int32) : zKe e C (zs C 59 e c) := by
  refine ⟨rfl, rfl, rfl, fun k e' hk he => ?_⟩
  rw [zs_at, if_neg (fun z => he z.2)]
theorem zKe_show (C : zm_I) (e w v p s : Nat) (h tk re pa eg : Int32) : zKe e C (cShow (fDrive C e w v s) e v p h tk re pa eg) := by
  refine ⟨funext fun j => cSh_68, funext fun j => cSh_71, cSh_66_3, fun k e' hk he => ?_⟩
  unfold cShow fDrive
  rcases (show k = 0 ∨ k = 1 ∨ k = 2 ∨ k = 3 ∨ k = 4 ∨ k = 5 ∨ k = 6 by omega) with rfl | rfl | rfl | rfl | rfl | rfl | rfl <;> simp [zs_at, he]
theorem zKe_ent (q w n s : Nat) (P : zm_I × zm_J) (e : Nat) : zKe e P.1 (fEntS q w n s P e).1 := by
  unfold fEntS
  split
  · split
    · split
      · exact zKe_tr (zKe_tr (zKe_forget P.1 e) (zKe_59 _ e _)) (zKe_show _ e w _ _ s _ _ _ _ _)
      · exact zKe_tr (zKe_forget P.1 e) (zKe_59 _ e _)
    · exact ⟨rfl, rfl, rfl, fun _ _ _ _ => rfl⟩
  · exact ⟨rfl, rfl, rfl, fun _ _ _ _ => rfl⟩
theorem zVS_show {W Pn E n w e : Nat} {sh : Int32} {gi D D' X X' : zm_I} {dn : Nat → Prop} (hV : zVS W Pn E n sh gi dn D X) (hO : zOut W Pn w e D' X X') (hK : zKe e D D') : zVS W Pn E n sh gi (fun e' => dn e' ∨ e' = e) D' X' := by
  obtain ⟨v1, v2, v3, v4, v5, v6, v7, v8⟩ := hV
  obtain ⟨o1, o2, o3, o4, o5, o6, o7, o8, o9⟩ := hO
  obtain ⟨k1, k2, k3, k4⟩ := hK
  refine ⟨o1, o2, zXg_tr v3 o4, o9.trans v4, fun e' k he' hd hk => ?_, fun v n' hv hn => by rw [o8, k1]; exact v6 v n' hv hn, by rw [k3]; exact v7, by rw [k2]; exact v8⟩
  by_cases c : e' = e
  · subst c
    exact o5 k hk
  · rw [o6 _ (by omega), k4 k e' hk c]
    exact v5 e' k he' (hd.elim id (fun z => absurd z c)) hk
theorem zVS_dn {W Pn E n : Nat} {sh : Int32} {gi D X : zm_I} {dn dn' : Nat → Prop} (h : ∀ e, e < E → dn' e → dn e) (hV : zVS W Pn E n sh gi dn D X) : zVS W Pn E n sh gi dn' D X :=
  ⟨hV.1, hV.2.1, hV.2.2.1, hV.2.2.2.1, fun e k he hd hk => hV.2.2.2.2.1 e k he (h e he hd) hk, hV.2.2.2.2.2⟩
theorem zVS_57 {W Pn E n : Nat} {sh : Int32} {gi D X : zm_I} {dn : Nat → Prop} {j : Nat} {v : Int32} (hj : j ≠ 17) (hV : zVS W Pn E n sh gi dn D X) : zVS W Pn E n sh gi dn (zs D 57 j v) X := by
  obtain ⟨v1, v2, v3, v4, v5, v6, v7⟩ := hV
  refine ⟨v1, fun v' hv' => ?_, v3, v4, fun e k he hd hk => ?_, v6, v7⟩
  · rw [zs_nj (Ne.symm hj)]; exact v2 v' hv'
  · rw [zs_nq (by omega)]; exact v5 e k he hd hk
theorem zVS_57r {W Pn E n : Nat} {sh : Int32} {gi D X : zm_I} {dn : Nat → Prop} {j : Nat} {v : Int32} (hj : j ≠ 17) (hV : zVS W Pn E n sh gi dn (zs D 57 j v) X) : zVS W Pn E n sh gi dn D X := by
  obtain ⟨v1, v2, v3, v4, v5, v6, v7⟩ := hV
  refine ⟨v1, fun v' hv' => ?_, v3, v4, fun e k he hd hk => ?_, v6, v7⟩
  · have := v2 v' hv'
    rw [zs_nj (Ne.symm hj)] at this
    exact this
  · have := v5 e k he hd hk
    rw [zs_nq (by omega)] at this
    exact this
theorem fEntS_id {q w n s : Nat} {P : zm_I × zm_J} {e : Nat} (h : ¬ (P.1 (q + 1) e = nI n ∧ P.1 (q + 2) e = nI w)) : fEntS q w n s P e = P := by
  unfold fEntS
  by_cases h1 : P.1 (q + 1) e = nI n
  · rw [if_pos h1, if_neg (fun h2 => h ⟨h1, h2⟩)]
  · rw [if_neg h1]
theorem zit2_id {q w n s : Nat} {P : zm_I × zm_J} : ∀ E, (∀ e, e < E → ¬ (P.1 (q + 1) e = nI n ∧ P.1 (q + 2) e = nI w)) → zit2 (fEntS q w n s) P E = P
  | 0, _ => rfl
  | e + 1, h => by
    show fEntS q w n s (zit2 (fEntS q w n s) P e) e = P
    rw [zit2_id e (fun e' he' => h e' (by omega))]
    exact fEntS_id (h e (Nat.lt_succ_self _))
/-- the end of a run -/
def zFin (W Pn E : Nat) (G X : zm_I) : Prop :=
  (∀ e k, e < E → k < 7 → X 130 (7 * e + k) = G (59 + k) e) ∧ (X 87 79 = G 66 0 ∧ X 87 78 = G 66 1 ∧ X 87 80 = G 66 2 ∧ X 87 81 = G 66 3 ∧ X 87 82 = G 66 4) ∧
  (∀ v n, v < W → n < 4 → X 131 (4 * v + n) = G 68 (v * 4 + n)) ∧ ∀ p, p < Pn → X 127 p = G 70 p ∧ X 128 p = G 72 p ∧ X 132 p = G 71 p
theorem zFin_fine {W Pn E : Nat} {G X : zm_I} {v : Int32} (h : zFin W Pn E G X) : zFin W Pn E (zs G 66 1 v) (zs X 87 78 v) := by
  obtain ⟨a1, ⟨b1, b2, b3, b4, b5⟩, a3, a4⟩ := h
  refine ⟨fun e k he hk => ?_, ⟨b1, rfl, b3, b4, b5⟩, a3, a4⟩
  rw [zs_nq (by decide), zs_nq (by omega)]
  exact a1 e k he hk
theorem i32_ss (a x f : Int32) : a - x - f = a - (x + f) := by
  apply Int32.toBitVec_inj.mp
  simp only [Int32.toBitVec_sub, Int32.toBitVec_add]
  exact BitVec.sub_sub _ _ _
theorem zit_fuel {G : zm_I} (h : G 66 3 = nI 0) : ∀ i, zit fFuelS G i 66 1 = G 66 1 - zit fFuelS G i 66 3
  | 0 => by
    show G 66 1 = G 66 1 - G 66 3
    rw [h]
    have : nI 0 = (0 : Int32) := rfl
    rw [this, Int32.sub_zero]
  | i + 1 => by
    show fFuelS (zit fFuelS G i) i 66 1 = G 66 1 - fFuelS (zit fFuelS G i) i 66 3
    have ih := zit_fuel h i
    generalize zit fFuelS G i = M at ih ⊢
    unfold fFuelS
    rw [zs_eq, zs_nj (by decide), zs_eq, ← i32_ss, ← ih]
theorem fBeg_at (C : zm_I) {W Pn : Nat} (hW : W ≤ 3) (hP : Pn ≤ 4) : (∀ v, v < W → fBegin C W Pn 67 v = C 20 v ∧ fBegin C W Pn 69 v = nI 0) ∧ (∀ p, p < Pn → fBegin C W Pn 70 p = C (23 + p) 3 ∧ fBegin C W Pn 72 p = nI 0 ∧ fBegin C W Pn 71 p = -1) ∧ (∀ j, j < 32 → fBegin C W Pn 73 j = nI 0) ∧ ∀ j, j < 5 → fBegin C W Pn 66 j = nI 0 := by
  have h0 : ∀ a, a ≠ 67 → a ≠ 70 → fBegin C W Pn a = fBeg0 C a := fun a h1 h2 => by
    unfold fBegin
    rw [zit_nq (fBeg2S_nq h2), zit_nq (fBeg1S_nq h1)]
  refine ⟨fun v hv => ⟨?_, ?_⟩, fun p hp => ⟨?_, ?_, ?_⟩, fun j hj => ?_, fun j hj => ?_⟩
  · unfold fBegin
    rw [zit_nq (fBeg2S_nq (by decide)), fBeg1_at, if_pos hv, fBeg0_nq (by decide) (by decide) (by decide) (by decide) (by decide)]
  · rw [h0 69 (by decide) (by decide)]
    show (if v < 3 then nI 0 else _) = nI 0
    rw [if_pos (by omega)]
  · unfold fBegin
    rw [fBeg2_at _ _ _ hP, if_pos hp, zit_nq (fBeg1S_nq (by omega)), fBeg0_nq (by omega) (by omega) (by omega) (by omega) (by omega)]
  · rw [h0 72 (by decide) (by decide)]
    show (if p < 4 then nI 0 else _) = nI 0
    rw [if_pos (by omega)]
  · rw [h0 71 (by decide) (by decide)]
    show (if p < 4 then (-1 : Int32) else _) = -1
    rw [if_pos (by omega)]
  · rw [h0 73 (by decide) (by decide)]
    show (if j < 32 then nI 0 else _) = nI 0
    rw [if_pos hj]
  · rw [h0 66 (by decide) (by decide)]
    show (if j < 5 then nI 0 else _) = nI 0
    rw [if_pos hj]
theorem fBegin_68 (C : zm_I) {W Pn a : Nat} (h : (59 ≤ a ∧ a ≤ 65) ∨ a = 68) : fBegin C W Pn a = C a := by
  unfold fBegin
  rw [zit_nq (fBeg2S_nq (by omega)), zit_nq (fBeg1S_nq (by omega)), fBeg0_nq (by omega) (by omega) (by omega) (by omega) (by omega)]
/-- a night's beginning and end: without the villages shown -/
def zVN (W Pn E n : Nat) (sh : Int32) (gi : zm_I) (dn : Nat → Prop) (D X : zm_I) : Prop :=
  zDR W Pn D X ∧ zXg gi X ∧ X 87 66 = sh ∧ (∀ e k, e < E → dn e → k < 7 → X 130 (7 * e + k) = D (59 + k) e) ∧ (∀ v n', v < W → n' < n → X 131 (4 * v + n') = D 68 (v * 4 + n')) ∧ zKp Pn D
theorem zVS_vn {W Pn E n : Nat} {sh : Int32} {gi D X : zm_I} {dn : Nat → Prop} (h : zVS W Pn E n sh gi dn D X) : zVN W Pn E n sh gi dn D X := ⟨h.1, h.2.2.1, h.2.2.2.1, h.2.2.2.2⟩
def rNi0 (X : zm_I) : zm_I := zs (zs (zs (zs (zs (zs (zs (zs (zs (zs (zs (zs (zs (zs X 124 0 (nI 0)) 125 0 (nI 0)) 124 1 (nI 0)) 125 1 (nI 0)) 124 2 (nI 0)) 125 2 (nI 0)) 126 0 (nI 0)) 126 1 (nI 0)) 126 2 (nI 0)) 126 3 (nI 0)) 126 4 (nI 0)) 126 5 (nI 0)) 126 6 (nI 0)) 126 7 (nI 0)
theorem rNi0_q (X : zm_I) {a : Nat} (h4 : a ≠ 124) (h5 : a ≠ 125) (h6 : a ≠ 126) : rNi0 X a = X a := by
  unfold rNi0
  rw [zs_nq h6, zs_nq h6, zs_nq h6, zs_nq h6, zs_nq h6, zs_nq h6, zs_nq h6, zs_nq h6, zs_nq h5, zs_nq h4, zs_nq h5, zs_nq h4, zs_nq h5, zs_nq h4]
theorem zNi_ok {W Pn E n : Nat} {sh : Int32} {gi D X : zm_I} {dn : Nat → Prop} (h : zVN W Pn E n sh gi dn D X) : zVS W Pn E n sh gi dn (fNi0 sh n D) (rNi0 X) ∧ ∀ w, w < 3 → rNi0 X 124 w = nI 0 ∧ rNi0 X 125 w = nI 0 := by
  obtain ⟨v1, v3, v4, v5, v6, v7⟩ := h
  have q : ∀ a, a ≠ 124 → a ≠ 125 → a ≠ 126 → rNi0 X a = X a := fun a => rNi0_q X
  have d : ∀ a, a ≠ 57 → fNi0 sh n D a = D a := fun a ha => by unfold fNi0; rw [zs_nq ha, zs_nq ha, zs_nq ha]
  refine ⟨⟨?_, fun v hv => ?_, ?_, ?_, fun e k he hd hk => ?_, fun v n' hv hn => ?_, ?_⟩, fun w hw => ?_⟩
  · unfold zDR
    rw [q 122 (by decide) (by decide) (by decide), q 123 (by decide) (by decide) (by decide), q 127 (by decide) (by decide) (by decide), q 128 (by decide) (by decide) (by decide), q 132 (by decide) (by decide) (by decide), q 129 (by decide) (by decide) (by decide), q 87 (by decide) (by decide) (by decide), d 67 (by decide), d 69 (by decide), d 70 (by decide), d 72 (by decide), d 71 (by decide), d 73 (by decide), d 66 (by decide)]
    exact v1
  · have e : fNi0 sh n D 57 17 = nI 0 := rfl
    rw [e, zb_f (zbit_0 (by omega))]
    rcases (show v = 0 ∨ v = 1 ∨ v = 2 ∨ v = 3 ∨ v = 4 ∨ v = 5 ∨ v = 6 ∨ v = 7 by omega) with rfl | rfl | rfl | rfl | rfl | rfl | rfl | rfl <;> rfl
  · unfold rNi0
    iterate 14 refine zXg_zs ?_ (by omega)
    exact v3
  · rw [q 87 (by decide) (by decide) (by decide)]; exact v4
  · rw [q 130 (by decide) (by decide) (by decide), d (59 + k) (by omega)]; exact v5 e k he hd hk
  · rw [q 131 (by decide) (by decide) (by decide), d 68 (by decide)]; exact v6 v n' hv hn
  · unfold zKp
    rw [d 66 (by decide), d 71 (by decide)]
    exact v7
  · rcases (show w = 0 ∨ w = 1 ∨ w = 2 by omega) with rfl | rfl | rfl <;> exact ⟨rfl, rfl⟩
theorem zHan_vs {W Pn E n : Nat} {sh : Int32} {gi D H X Y : zm_I} {dn : Nat → Prop} (h : zVS W Pn E n sh gi dn D X) (h1 : zDR W Pn H Y) (hY : ∀ a, a ≠ 127 → Y a = X a) (hH : ∀ a, a ≠ 70 → H a = D a) : zVS W Pn E n sh gi dn H Y := by
  obtain ⟨v1, v2, v3, v4, v5, v6, v7⟩ := h
  refine ⟨h1, fun v hv => ?_, ⟨fun a ha h7 => (hY a (by omega)).trans (v3.1 a ha h7), fun j hj => by rw [hY 87 (by decide)]; exact v3.2 j hj⟩, by rw [hY 87 (by decide)]; exact v4, fun e k he hd hk => ?_, fun v n' hv hn => ?_, ?_⟩
  · rw [hY 126 (by decide), hH 57 (by decide)]; exact v2 v hv
  · rw [hY 130 (by decide), hH (59 + k) (by omega)]; exact v5 e k he hd hk
  · rw [hY 131 (by decide), hH 68 (by decide)]; exact v6 v n' hv hn
  · unfold zKp
    rw [hH 66 (by decide), hH 71 (by decide)]
    exact v7
theorem zEnd1 {W Pn E n : Nat} {sh : Int32} {gi D X : zm_I} {dn : Nat → Prop} {v : Nat} (hn : n < 4) (hv : v < W) (hV : zVN W Pn E n sh gi dn D X) (hw : ∀ v', v' < v → X 131 (4 * v' + n) = D 68 (v' * 4 + n)) :
    zVN W Pn E n sh gi dn (fEnd1S n D v) (zs X 131 (4 * v + n) (X 122 v)) ∧ ∀ v', v' < v + 1 → zs X 131 (4 * v + n) (X 122 v) 131 (4 * v' + n) = fEnd1S n D v 68 (v' * 4 + n) := by
  obtain ⟨v1, v3, v4, v5, v6, v7⟩ := hV
  unfold fEnd1S
  refine ⟨⟨v1, zXg_zs v3 (by omega), v4, fun e k he hd hk => ?_, fun v' n' hv' hn' => ?_, v7⟩, fun v' hv' => ?_⟩
  · rw [zs_nq (by decide), zs_nq (by omega)]; exact v5 e k he hd hk
  · rw [zs_nj (by omega), zs_nj (by omega)]; exact v6 v' n' hv' hn'
  · by_cases c : v' = v
    · subst c
      rw [zs_eq, zs_eq]
      exact (v1.1 v' hv).1
    · rw [zs_nj (by omega), zs_nj (by omega)]
      exact hw v' (by omega)
theorem zEnd2 {W Pn E n m : Nat} {sh : Int32} {gi D X : zm_I} {dn : Nat → Prop} {p : Nat} (hn : n < 4) (hV : zVN W Pn E m sh gi dn D X) : zVN W Pn E m sh gi dn (zs D 71 p (nI n)) (zs X 132 p (nI n)) := by
  obtain ⟨⟨d1, d2, d3, d4⟩, v3, v4, v5, v6, v7, v8⟩ := hV
  refine ⟨⟨d1, fun p' hp' => ⟨(d2 p' hp').1, (d2 p' hp').2.1, ?_⟩, d3, d4⟩, zXg_zs v3 (by omega), v4, fun e k he hd hk => ?_, v6, v7, fun p' hp' => ?_⟩
  · rw [zs_at, zs_at]
    by_cases c : p' = p
    · rw [if_pos ⟨rfl, c⟩, if_pos ⟨rfl, c⟩]
    · rw [if_neg (fun z => c z.2), if_neg (fun z => c z.2)]; exact (d2 p' hp').2.2
  · rw [zs_nq (by decide), zs_nq (by omega)]; exact v5 e k he hd hk
  · rw [zs_at]
    split
    · exact Or.inr (zx_of hn (by decide))
    · exact v8 p' hp'
theorem zFin_of {W Pn E : Nat} {sh : Int32} {gi D X : zm_I} {dn : Nat → Prop} (hd : ∀ e, e < E → dn e) (hV : zVN W Pn E 4 sh gi dn D X) : zFin W Pn E (zs D 66 1 (D 66 1)) X := by
  obtain ⟨⟨d1, d2, d3, d4, d5, d6, d7, d8⟩, v3, v4, v5, v6, v7⟩ := hV
  rw [zs_same rfl]
  exact ⟨fun e k he hk => v5 e k he (hd e he) hk, ⟨d4, d5, d6, d8, d7⟩, v6, d2⟩
theorem zFin_fuel {W Pn E : Nat} {G X : zm_I} {a b c : Int32} (h : zFin W Pn E (zs G 66 1 c) X) : zFin W Pn E (zs (zs (zs G 66 3 a) 66 1 b) 66 1 c) (zs X 87 81 a) := by
  obtain ⟨a1, ⟨b1, b2, b3, b4, b5⟩, a3, a4⟩ := h
  refine ⟨fun e k he hk => ?_, ⟨b1, b2, b3, rfl, b5⟩, a3, a4⟩
  have := a1 e k he hk
  rw [zs_nq (by omega)] at this
  rw [zs_nq (by decide), zs_nq (by omega), zs_nq (by omega), zs_nq (by omega)]
  exact this
theorem zFin_pay {W Pn E : Nat} {G X : zm_I} {c v : Int32} (h : zFin W Pn E (zs G 66 1 c) X) (hv : v = G 66 1) : zFin W Pn E G (zs X 87 78 v) := by
  have h2 := zFin_fine (v := v) h
  rw [zs_zs, hv, zs_same rfl] at h2
  rw [hv]
  exact h2
