/-! the search -/
def zCh (V Pn : Nat) (x : Int32) : Prop := x = -1 ∨ ∃ a b, a < V ∧ b < Pn ∧ x = nI (4 * a + b)
theorem fChoL_nq {C P : Nat} {a : Nat} (h : a ≠ 85) : ∀ (m : Nat) (p : zm_I × Nat), (fChoL C P m p).1 a = p.1 a
  | 0, p => rfl
  | m + 1, p => by
    show (fChoL C P m (fChoS C P p m)).1 a = _
    rw [fChoL_nq h m]
    unfold fChoS
    split
    · rfl
    · exact zs_nq h
theorem fChoL_ok {V Pn : Nat} (hp : Pn ≤ 4) (j : Nat) : ∀ (m : Nat) (p : zm_I × Nat), zCh V Pn (p.1 85 j) → zCh V Pn ((fChoL (V * Pn + 1) (if Pn = 0 then 1 else Pn) m p).1 85 j)
  | 0, p, h => h
  | m + 1, p, h => by
    refine fChoL_ok hp j m _ ?_
    unfold fChoS
    split
    · exact h
    · rename_i h0
      dsimp only
      rw [zs_at]
      split
      · have hmd : p.2 % (V * Pn + 1) < V * Pn + 1 := Nat.mod_lt _ (by omega)
        have hP0 : ¬ Pn = 0 := by
          intro e
          rw [e, Nat.mul_zero] at hmd h0
          omega
        rw [if_neg hP0]
        refine Or.inr ⟨(p.2 % (V * Pn + 1) - 1) / Pn, (p.2 % (V * Pn + 1) - 1) % Pn, ?_, Nat.mod_lt _ (by omega), rfl⟩
        apply Nat.div_lt_of_lt_mul
        have e := Nat.mul_comm Pn V
        omega
      · exact h
theorem fCho_nq {gi : zm_I} {C P n num a : Nat} (h : a ≠ 85) : fCho gi C P n num a = gi a := by unfold fCho; rw [fChoL_nq h]; exact zm_une h
theorem fCho_ok {gi : zm_I} {V Pn n num j : Nat} (hp : Pn ≤ 4) (hj : j < 3) : zCh V Pn (fCho gi (V * Pn + 1) (if Pn = 0 then 1 else Pn) n num 85 j) := by
  unfold fCho
  refine fChoL_ok hp j n _ (Or.inl ?_)
  dsimp only
  rw [va_up_self]
  unfold zfill
  rw [if_pos hj]
theorem zCh_div {V Pn : Nat} {x : Int32} (h : zCh V Pn x) (hx : ¬ x = -1) (hV : V ≤ 8) (hP : Pn ≤ 4) : zx (x / nI 4) 8 ∧ zx (x - x / nI 4 * nI 4) Pn := by
  rcases h with h | ⟨a, b, ha, hb, rfl⟩
  · exact absurd h hx
  · rw [pk_rem (by omega) (by decide) (by decide), pk_div (by omega) (by decide) (by decide), show (4 * a + b) / 4 = a by omega, show (4 * a + b) % 4 = b by omega]
    exact ⟨zx_of (by omega) (by decide), zx_of hb (by omega)⟩
theorem fLay_en {V W Pn k v : Nat} {M : zm_I} (h8 : M 76 8 = nI k) (hk : k ≤ 24) (hW : W ≤ 3) (hv : v < W) (hV : V ≤ 8) (hP : Pn ≤ 4) (hE : zEn 76 W Pn k M) (hC : ∀ j, j < 3 → zCh V Pn (M 85 j)) : ∀ n, n ≤ 3 → ∃ K, k ≤ K ∧ K ≤ k + n ∧ zit (fLayS v) M n 76 8 = nI K ∧ zEn 76 W Pn K (zit (fLayS v) M n)
  | 0, _ => ⟨k, Nat.le_refl _, Nat.le_refl _, h8, hE⟩
  | n + 1, hn => by
    obtain ⟨K, h1, h2, h3, h4⟩ := fLay_en h8 hk hW hv hV hP hE hC n (by omega)
    have h85 : zit (fLayS v) M n 85 = M 85 := zit_nq (fLayS_nq (by omega) (by decide)) M n
    have hc := hC n (by omega)
    show ∃ K, k ≤ K ∧ K ≤ k + (n + 1) ∧ fLayS v (zit (fLayS v) M n) n 76 8 = nI K ∧ zEn 76 W Pn K (fLayS v (zit (fLayS v) M n) n)
    generalize zit (fLayS v) M n = X at h3 h4 h85 ⊢
    unfold fLayS
    rw [h85]
    split
    · exact ⟨K, h1, by omega, h3, h4⟩
    · rename_i h0
      rw [h3, zi_nI (by omega)]
      obtain ⟨z1, z2⟩ := zCh_div hc h0 hV hP
      exact ⟨K + 1, by omega, by omega, fAddEB_8 _ _ _ _ _ _, fAddEB_en h4 (by omega) hv hW z1 z2⟩
theorem fLay_9 {v : Nat} (M : zm_I) : ∀ n, zit (fLayS v) M n 76 9 = M 76 9
  | 0 => rfl
  | n + 1 => by
    have ih := fLay_9 (v := v) M n
    show fLayS v (zit (fLayS v) M n) n 76 9 = _
    generalize zit (fLayS v) M n = X at ih ⊢
    unfold fLayS
    split
    · exact ih
    · rw [fAddEB_9 _ _ _ _ _ _ (by decide)]; exact ih
def fSk1 (V Pn n v k : Nat) (M : zm_I) (i : Nat) : zm_I := zit (fLayS v) (fCutB (fCho M (V * Pn + 1) (if Pn = 0 then 1 else Pn) n i) k (zi (M 76 8))) 3
def fSk2 (V W Pn K n v k : Nat) (P : zm_I × zm_J) (i : Nat) : zm_I × zm_J := fGo 76 (nI 0) W Pn (zi (fSk1 V Pn n v k P.1 i 76 8)) K (fSk1 V Pn n v k P.1 i, P.2)
def fSkS (V W Pn K n v k : Nat) (P : zm_I × zm_J) (i : Nat) : zm_I × zm_J :=
  if i = 0 ∨ ((fSk2 V W Pn K n v k P i).1 75 6 < (fSk2 V W Pn K n v k P i).1 66 0 ∨ ((fSk2 V W Pn K n v k P i).1 66 0 = (fSk2 V W Pn K n v k P i).1 75 6 ∧ ¬ (fSk2 V W Pn K n v k P i).1 66 1 ≤ (fSk2 V W Pn K n v k P i).1 75 7)) then (fKeep (fSk2 V W Pn K n v k P i).1, (fSk2 V W Pn K n v k P i).2) else fSk2 V W Pn K n v k P i
theorem fGo_ag {q : Nat} {sh : Int32} {W Pn E K : Nat} {P : zm_I × zm_J} (hq : q = 27 ∨ q = 76) (hR : zRs q W Pn E K P.1) : zAg P.1 (fGo q sh W Pn E K P).1 := by
  have h1 := fBegin_ag P.1 W Pn
  obtain ⟨h2, -⟩ := zit2_ni (sh := sh) (P := (fBegin P.1 W Pn, P.2)) hq (zRs_ag hq h1 hR) (fBegin_rd hR) 4
  refine (h1.tr h2).tr (fun a ha => ?_)
  unfold fGo
  dsimp only
  rw [zit_nq (fFineS_nq (by omega)), zit_nq (fFuelS_nq (by omega))]
/-- what the search leaves alone -/
def zAg2 (M M' : zm_I) : Prop := ∀ a, (a < 57 ∨ 87 ≤ a) → M' a = M a
theorem fSk1_in {V W Pn E K n v k i : Nat} {M : zm_I} (hR : zRs 76 W Pn E K M) (hV : V ≤ 8) (hv : v < W) (hk : k ≤ E) (hk4 : k ≤ 24) : ∃ E2, k ≤ E2 ∧ E2 ≤ k + 3 ∧ fSk1 V Pn n v k M i 76 8 = nI E2 ∧ zRs 76 W Pn E2 K (fSk1 V Pn n v k M i) ∧ zAg2 M (fSk1 V Pn n v k M i) := by
  obtain ⟨a1, a2, a3, a4, a5, a6, a7, a8, a9, a10, a11, a12, a13⟩ := id hR
  unfold fSk1
  rw [a5, zi_nI (by omega)]
  have hc : ∀ a, a ≠ 85 → fCho M (V * Pn + 1) (if Pn = 0 then 1 else Pn) n i a = M a := fun a ha => fCho_nq ha
  have hok : ∀ j, j < 3 → zCh V Pn (fCho M (V * Pn + 1) (if Pn = 0 then 1 else Pn) n i 85 j) := fun j hj => fCho_ok a4 hj
  generalize fCho M (V * Pn + 1) (if Pn = 0 then 1 else Pn) n i = C at hc hok ⊢
  have hcu : ∀ a, a ≠ 76 → a ≠ 84 → fCutB C k E a = C a := fun a h1 h2 => fCutB_nq C k E h1 h2
  have hen : zEn 76 W Pn k (fCutB C k E) := by
    intro e he
    show zx (fCutB C k E 77 e) 4 ∧ zx (fCutB C k E 78 e) W ∧ zx (fCutB C k E 79 e) 8 ∧ zx (fCutB C k E 80 e) Pn
    rw [hcu 77 (by decide) (by decide), hcu 78 (by decide) (by decide), hcu 79 (by decide) (by decide), hcu 80 (by decide) (by decide), hc 77 (by decide), hc 78 (by decide), hc 79 (by decide), hc 80 (by decide)]
    exact a7 e (by omega)
  obtain ⟨E2, b1, b2, b3, b4⟩ := fLay_en (V := V) (v := v) (fCutB_8 C k E) hk4 a2 hv hV a4 hen (fun j hj => by rw [hcu 85 (by decide) (by decide)]; exact hok j hj) 3 (Nat.le_refl _)
  have hl : ∀ a, (a < 76 ∨ 80 < a) → a ≠ 84 → a ≠ 85 → zit (fLayS v) (fCutB C k E) 3 a = M a := fun a h1 h2 h3 => by rw [zit_nq (fLayS_nq h1 h2), hcu a (by omega) h2, hc a h3]
  refine ⟨E2, b1, b2, b3, ⟨by rw [hl 19 (by omega) (by decide) (by decide)]; exact a1, a2, by rw [hl 19 (by omega) (by decide) (by decide)]; exact a3, a4, b3, by omega, b4, ?_, a9, ?_, fun p hp => by rw [hl (23 + p) (by omega) (by omega) (by omega)]; exact a11 p hp, fun u hu => by rw [hl 20 (by omega) (by decide) (by decide)]; exact a12 u hu, ?_⟩, fun a ha => hl a (by omega) (by omega) (by omega)⟩
  · rw [fLay_9, fCutB_9 C k E (by decide), hc 76 (by decide)]; exact a8
  · show ∀ i, i < K → zx (zit (fLayS v) (fCutB C k E) 3 81 i) 4 ∧ zx (zit (fLayS v) (fCutB C k E) 3 82 i) Pn ∧ zx (zit (fLayS v) (fCutB C k E) 3 83 i) W
    rw [hl 81 (by omega) (by decide) (by decide), hl 82 (by omega) (by decide) (by decide), hl 83 (by omega) (by decide) (by decide)]
    exact a10
  · unfold zLaw at a13 ⊢
    rw [hl 37 (by omega) (by decide) (by decide), hl 38 (by omega) (by decide) (by decide), hl 39 (by omega) (by decide) (by decide), hl 40 (by omega) (by decide) (by decide)]
    exact a13
theorem zRs_rows {W Pn E K : Nat} {M M' : zm_I} (h : ∀ a, a ≠ 75 → a ≠ 86 → M' a = M a) (hR : zRs 76 W Pn E K M) : zRs 76 W Pn E K M' := by
  obtain ⟨a1, a2, a3, a4, a5, a6, a7, a8, a9, a10, a11, a12, a13⟩ := hR
  refine ⟨by rw [h 19 (by decide) (by decide)]; exact a1, a2, by rw [h 19 (by decide) (by decide)]; exact a3, a4, by rw [h 76 (by decide) (by decide)]; exact a5, a6, ?_, by rw [h 76 (by decide) (by decide)]; exact a8, a9, ?_, fun p hp => by rw [h (23 + p) (by omega) (by omega)]; exact a11 p hp, fun u hu => by rw [h 20 (by decide) (by decide)]; exact a12 u hu, ?_⟩
  · rw [h (76 + 1) (by decide) (by decide), h (76 + 2) (by decide) (by decide), h (76 + 3) (by decide) (by decide), h (76 + 4) (by decide) (by decide)]; exact a7
  · rw [h (76 + 5) (by decide) (by decide), h (76 + 6) (by decide) (by decide), h (76 + 7) (by decide) (by decide)]; exact a10
  · unfold zLaw at a13 ⊢
    rw [h 37 (by decide) (by decide), h 38 (by decide) (by decide), h 39 (by decide) (by decide), h 40 (by decide) (by decide)]
    exact a13
theorem fKeep_nq (M : zm_I) {a : Nat} (h1 : a ≠ 75) (h2 : a ≠ 86) : fKeep M a = M a := by unfold fKeep; rw [zs_nq h2, zs_nq h2, zs_nq h2, zs_nq h1, zs_nq h1]
theorem fSkS_in {V W Pn E K n v k i : Nat} {P : zm_I × zm_J} (hR : zRs 76 W Pn E K P.1) (hV : V ≤ 8) (hv : v < W) (hk : k ≤ E) (hk4 : k ≤ 24) : ∃ E2, k ≤ E2 ∧ E2 ≤ k + 3 ∧ zRs 76 W Pn E2 K (fSkS V W Pn K n v k P i).1 ∧ zAg2 P.1 (fSkS V W Pn K n v k P i).1 := by
  obtain ⟨E2, b1, b2, b3, b4, b5⟩ := fSk1_in (n := n) (i := i) hR hV hv hk hk4
  have hz : zi (fSk1 V Pn n v k P.1 i 76 8) = E2 := by rw [b3]; exact zi_nI (by omega)
  have hA : zAg (fSk1 V Pn n v k P.1 i) (fSk2 V W Pn K n v k P i).1 := by
    unfold fSk2
    rw [hz]
    exact fGo_ag (P := (fSk1 V Pn n v k P.1 i, P.2)) (by decide) b4
  have hR2 : zRs 76 W Pn E2 K (fSk2 V W Pn K n v k P i).1 := zRs_ag (by decide) hA b4
  have hA2 : zAg2 P.1 (fSk2 V W Pn K n v k P i).1 := fun a ha => (hA a (by omega)).trans (b5 a ha)
  refine ⟨E2, b1, b2, ?_⟩
  unfold fSkS
  split
  · exact ⟨zRs_rows (fun a h1 h2 => fKeep_nq _ h1 h2) hR2, fun a ha => (fKeep_nq _ (by omega) (by omega)).trans (hA2 a ha)⟩
  · exact ⟨hR2, hA2⟩
theorem zit2_sk {V W Pn E K n v k : Nat} {P : zm_I × zm_J} (hR : zRs 76 W Pn E K P.1) (hV : V ≤ 8) (hv : v < W) (hk : k ≤ E) (hk3 : E ≤ k + 3) (hk4 : k ≤ 24) : ∀ i, ∃ E2, k ≤ E2 ∧ E2 ≤ k + 3 ∧ zRs 76 W Pn E2 K (zit2 (fSkS V W Pn K n v k) P i).1 ∧ zAg2 P.1 (zit2 (fSkS V W Pn K n v k) P i).1
  | 0 => ⟨E, hk, hk3, hR, fun _ _ => rfl⟩
  | i + 1 => by
    obtain ⟨E2, b1, b2, b3, b4⟩ := zit2_sk hR hV hv hk hk3 hk4 i
    obtain ⟨E3, c1, c2, c3, c4⟩ := fSkS_in (n := n) (i := i) b3 hV hv b1 hk4
    exact ⟨E3, c1, c2, c3, fun a ha => (c4 a ha).trans (b4 a ha)⟩
def fSk0 (gi : zm_I) (E K v : Nat) : zm_I := fHandL (fTakeLB gi (nI v) E) K
def fSeek (V W Pn E K n v : Nat) (P : zm_I × zm_J) : zm_I × zm_J :=
  (zs (zit2 (fSkS V W Pn K n v (zi (fSk0 P.1 E K v 76 8))) (fSk0 P.1 E K v, P.2) ((V * Pn + 1) ^ n)).1 75 8 (nI ((V * Pn + 1) ^ n)), (zit2 (fSkS V W Pn K n v (zi (fSk0 P.1 E K v 76 8))) (fSk0 P.1 E K v, P.2) ((V * Pn + 1) ^ n)).2)
theorem fHandL_8 (gi : zm_I) : ∀ i, fHandL gi i 76 8 = gi 76 8
  | 0 => zs_nj (by decide)
  | i + 1 => by show fAddHB _ _ _ _ _ 76 8 = _; unfold fAddHB; rw [zs_nj (by decide), zs_nq (by decide), zs_nq (by decide), zs_nq (by decide)]; exact fHandL_8 gi i
theorem fHandL_rows (gi : zm_I) : ∀ i j, j < i → fHandL gi i 81 j = gi 32 j ∧ fHandL gi i 82 j = gi 33 j ∧ fHandL gi i 83 j = gi 34 j
  | 0, j, h => absurd h (Nat.not_lt_zero j)
  | i + 1, j, h => by
    show fAddHB _ _ _ _ _ 81 j = _ ∧ fAddHB _ _ _ _ _ 82 j = _ ∧ fAddHB _ _ _ _ _ 83 j = _
    unfold fAddHB
    simp only [zs_at]
    by_cases e : j = i
    · subst e; simp
    · obtain ⟨r1, r2, r3⟩ := fHandL_rows gi i j (by omega)
      simp [e, r1, r2, r3]
theorem fSk0_in {V W Pn E K v : Nat} {gi : zm_I} (hR : zRs 27 W Pn E K gi) (he : E ≤ 24) : ∃ k, k ≤ E ∧ fSk0 gi E K v 76 8 = nI k ∧ zRs 76 W Pn k K (fSk0 gi E K v) ∧ zAg2 gi (fSk0 gi E K v) := by
  obtain ⟨a1, a2, a3, a4, a5, a6, a7, a8, a9, a10, a11, a12, a13⟩ := id hR
  obtain ⟨k, b1, b2, b3⟩ := fTakeLB_en (v := nI v) (show zEn 27 W Pn E gi from a7) a2 he E (Nat.le_refl _)
  have ht : ∀ a, (a < 76 ∨ 80 < a) → a ≠ 84 → fTakeLB gi (nI v) E a = gi a := fun a h1 h2 => fTakeLB_nq h1 h2 E
  unfold fSk0
  have hh : ∀ a, a ≠ 76 → a ≠ 81 → a ≠ 82 → a ≠ 83 → fHandL (fTakeLB gi (nI v) E) K a = fTakeLB gi (nI v) E a := fun a h1 h2 h3 h4 => fHandL_nq _ h1 h2 h3 h4 K
  have hb : ∀ a, (a < 76 ∨ 84 < a) → fHandL (fTakeLB gi (nI v) E) K a = gi a := fun a h => (hh a (by omega) (by omega) (by omega) (by omega)).trans (ht a (by omega) (by omega))
  refine ⟨k, b1, (fHandL_8 _ K).trans b2, ⟨by rw [hb 19 (by omega)]; exact a1, a2, by rw [hb 19 (by omega)]; exact a3, a4, (fHandL_8 _ K).trans b2, by omega, ?_, fHandL_9 _ K, a9, ?_, fun p hp => by rw [hb (23 + p) (by omega)]; exact a11 p hp, fun u hu => by rw [hb 20 (by omega)]; exact a12 u hu, ?_⟩, fun a ha => hb a (by omega)⟩
  · rw [hh (76 + 1) (by decide) (by decide) (by decide) (by decide), hh (76 + 2) (by decide) (by decide) (by decide) (by decide), hh (76 + 3) (by decide) (by decide) (by decide) (by decide), hh (76 + 4) (by decide) (by decide) (by decide) (by decide)]; exact b3
  · intro i hi
    obtain ⟨r1, r2, r3⟩ := fHandL_rows (fTakeLB gi (nI v) E) K i hi
    show zx (fHandL (fTakeLB gi (nI v) E) K 81 i) 4 ∧ zx (fHandL (fTakeLB gi (nI v) E) K 82 i) Pn ∧ zx (fHandL (fTakeLB gi (nI v) E) K 83 i) W
    rw [r1, r2, r3, ht 32 (by omega) (by decide), ht 33 (by omega) (by decide), ht 34 (by omega) (by decide)]
    exact a10 i hi
  · unfold zLaw at a13 ⊢
    rw [hb 37 (by omega), hb 38 (by omega), hb 39 (by omega), hb 40 (by omega)]
    exact a13
theorem ct_seek (g : zm_G) (gi : zm_I) (gl : zm_J) (r : Nat) {V W Pn E K n v : Nat} (hR : zRs 27 W Pn E K gi) (he : E ≤ 24) (hV : gi 3 3 = nI V) (hV8 : V ≤ 8) (hv : v < W) (hn : n ≤ 3) (hall : (V * Pn + 1) ^ n ≤ 1200)  : zC_v g yX8_seek mX8_seek 6 [.ref 75, .ref 27, .int (nI v), .int (nI n)] zSH gi gl (zRT r) (fun gi' gl' gr' => gi' = (fSeek V W Pn E K n v (gi, gl)).1 ∧ gl' = (fSeek V W Pn E K n v (gi, gl)).2 ∧ gr' = zRT 76) := by
  refine zC_v_of [some (.ref 75), some (.ref 27), some (.int (nI v)), some (.int (nI n)), none, none, none] (by decide) rfl rfl (Nat.le_of_ble_eq_true rfl) (fun x => ?_)
  obtain ⟨a1, a2, a3, a4, a5, a6, a7, a8, a9, a10, a11, a12, a13⟩ := id hR
  refine zA_aload_0 dX8_seek_0 ?_
  refine zA_getR sh_75 fX8_12 dX8_seek_1 rfl (rt_75_3 _) ?_
  refine zA_aload_1 dX8_seek_4 ?_
  refine zA_iload_2 dX8_seek_5 ?_
  refine zA_cVv (ct_takeOthersB g gi gl r a5 he (fun i hi => (a7 i hi).1) (fun i hi => ⟨(a7 i hi).2.1.1, Nat.lt_of_lt_of_le (a7 i hi).2.1.2 a2⟩)) calX7_takeOthers stX7_takeOthers lX8_52 dX8_seek_6 (by decide) (by simp [Value.category]) rfl (Nat.le_refl _) (Nat.le_refl _) sh_76 rfl (fun gi' gl' gr' ⟨q1, q2, q3⟩ => ?_)
  rw [q1, q2, q3]
  clear q1 q2 q3
  refine zA_aload_0 dX8_seek_9 ?_
  refine zA_getR sh_75 fX8_12 dX8_seek_10 rfl (rt_75_3 _) ?_
  refine zA_aload_1 dX8_seek_13 ?_
  refine zA_cVv (ct_takeHands g (fTakeLB gi (nI v) E) gl r (by rw [fTakeLB_nq (by omega) (by decide)]; exact a8) a9) calX7_takeHands stX7_takeHands lX8_56 dX8_seek_14 (by decide) (by simp [Value.category]) rfl (Nat.le_refl _) (Nat.le_refl _) sh_76 rfl (fun gi' gl' gr' ⟨q1, q2, q3⟩ => ?_)
  rw [q1, q2, q3]
  clear q1 q2 q3
  obtain ⟨k, c1, c2, c3, c4⟩ := fSk0_in (V := V) (v := v) hR he
  have hzk : zi (fSk0 gi E K v 76 8) = k := by rw [c2]; exact zi_nI (by omega)
  refine zA_aload_0 dX8_seek_17 ?_
  refine zA_getR sh_75 fX8_12 dX8_seek_18 rfl (rt_75_3 _) ?_
  refine zA_getI (v := (nI k)) sh_76 fX8_60 dX8_seek_21 rfl c2 ?_
  refine zA_istore_4 dX8_seek_24 rfl ?_
  refine zA_aload_0 dX8_seek_26 ?_
  refine zA_iload_3 dX8_seek_27 ?_
  refine zA_cVi (ct_rowsFor g (fSk0 gi E K v) gl r (V := V) (Pn := Pn) (n := n) (by rw [c4 3 (by omega)]; exact hV) (by rw [c4 19 (by omega)]; exact a3) hn) calX8_rowsFor stX8_rowsFor lX8_63 dX8_seek_28 (by decide) (by simp [Value.category]) rfl (Nat.le_refl _) (Nat.le_refl _) sh_75 rfl (fun zz gi' gl' gr' ⟨hz, q1, q2, q3⟩ => ?_)
  rw [hz, q1, q2, q3]
  clear hz q1 q2 q3
  have hSk : fSeek V W Pn E K n v (gi, gl) = (zs (zit2 (fSkS V W Pn K n v k) (fSk0 gi E K v, gl) ((V * Pn + 1) ^ n)).1 75 8 (nI ((V * Pn + 1) ^ n)), (zit2 (fSkS V W Pn K n v k) (fSk0 gi E K v, gl) ((V * Pn + 1) ^ n)).2) := by unfold fSeek; rw [hzk]
  rw [hSk]
  generalize hRR : (V * Pn + 1) ^ n = R at hall ⊢
  refine zA_istore_5 dX8_seek_31 rfl ?_
  refine zA_iconst (nI 0) dX8_seek_33 ic_0 ?_
  refine zA_istore_6 dX8_seek_34 rfl ?_
  have key : ∀ (m i rr : Nat), i + m = R → (0 < i → rr = 76) → zB_v x g mX8_seek 6 zSH (fun gi' gl' gr' => gi' = (zs (zit2 (fSkS V W Pn K n v k) (fSk0 gi E K v, gl) R).1 75 8 (nI R), (zit2 (fSkS V W Pn K n v k) (fSk0 gi E K v, gl) R).2).1 ∧ gl' = (zs (zit2 (fSkS V W Pn K n v k) (fSk0 gi E K v, gl) R).1 75 8 (nI R), (zit2 (fSkS V W Pn K n v k) (fSk0 gi E K v, gl) R).2).2 ∧ gr' = zRT 76) 36 [some (.ref 75), some (.ref 27), some (.int (nI v)), some (.int (nI n)), some (.int (nI k)), some (.int (nI R)), some (.int (nI i))] [] ((zit2 (fSkS V W Pn K n v k) (fSk0 gi E K v, gl) i).1) ((zit2 (fSkS V W Pn K n v k) (fSk0 gi E K v, gl) i).2) (zRT rr) := by
    intro m
    induction m with
    | zero =>
      intro i rr hi hrr
      obtain ⟨E2, s1, s2, s3, s4⟩ := zit2_sk (n := n) (v := v) (P := (fSk0 gi E K v, gl)) c3 hV8 hv (Nat.le_refl _) (by omega) (by omega) i
      generalize hX : zit2 (fSkS V W Pn K n v k) (fSk0 gi E K v, gl) i = X at s3 s4 ⊢
      obtain ⟨k1, k2, k3, k4, k5, k6, k7, k8, k9, k10, k11, k12, k13⟩ := id s3
      have x3 : X.1 3 3 = nI V := (congrFun ((s4 3 (by omega)).trans (c4 3 (by omega))) 3).trans hV
      refine zA_iload_6 dX8_seek_36 ?_
      refine zA_iload_5 dX8_seek_38 ?_
      refine zA_icmp_geN 91 dX8_seek_40 (by decide) (by omega) (by omega) (fun h => ?_) (fun h => ?_)
      · have e : i = R := by omega
        have hR0 : 0 < R := by rw [← hRR]; exact Nat.pow_pos (by omega)
        have e76 := hrr (by omega)
        subst e76
        rw [e] at hX
        refine zA_aload_0 dX8_seek_91 ?_
        refine zA_iload_5 dX8_seek_92 ?_
        refine zS_putI sh_75 fX8_86 dX8_seek_94 rfl rfl ?_
        exact zB_vret rfl dX8_seek_97 (⟨by rw [hX], by rw [hX], rfl⟩)
      · exact absurd h (by omega)
    | succ m ih =>
      intro i rr hi hrr
      obtain ⟨E2, s1, s2, s3, s4⟩ := zit2_sk (n := n) (v := v) (P := (fSk0 gi E K v, gl)) c3 hV8 hv (Nat.le_refl _) (by omega) (by omega) i
      generalize hX : zit2 (fSkS V W Pn K n v k) (fSk0 gi E K v, gl) i = X at s3 s4 ⊢
      obtain ⟨k1, k2, k3, k4, k5, k6, k7, k8, k9, k10, k11, k12, k13⟩ := id s3
      have x3 : X.1 3 3 = nI V := (congrFun ((s4 3 (by omega)).trans (c4 3 (by omega))) 3).trans hV
      refine zA_iload_6 dX8_seek_36 ?_
      refine zA_iload_5 dX8_seek_38 ?_
      refine zA_icmp_geN 91 dX8_seek_40 (by decide) (by omega) (by omega) (fun h => ?_) (fun h => ?_)
      · exact absurd h (by omega)
      · refine zA_aload_0 dX8_seek_43 ?_
        refine zA_iload_6 dX8_seek_44 ?_
        refine zA_iload_3 dX8_seek_46 ?_
        refine zA_cVv (ct_choose g X.1 X.2 rr (V := V) (Pn := Pn) (n := n) (num := i) x3 k3 hV8 k4 hn (by omega)) calX8_choose stX8_choose lX8_67 dX8_seek_47 (by decide) (by simp [Value.category]) rfl (Nat.le_refl _) (Nat.le_refl _) sh_75 rfl (fun gi' gl' gr' ⟨q1, q2, q3⟩ => ?_)
        rw [q1, q2, q3]
        clear q1 q2 q3
        have hc : ∀ a, a ≠ 85 → fCho X.1 (V * Pn + 1) (if Pn = 0 then 1 else Pn) n i a = X.1 a := fun a ha => fCho_nq ha
        refine zA_aload_0 dX8_seek_50 ?_
        refine zA_iload_4 dX8_seek_51 ?_
        refine zA_iload_2 dX8_seek_53 ?_
        refine zA_cVv (ct_layTrial g (fCho X.1 (V * Pn + 1) (if Pn = 0 then 1 else Pn) n i) X.2 rr (k := k) (E := E2) (v := v) (by rw [hc 76 (by decide)]; exact k5) (by omega) s1 (by omega) (fun i hi => by rw [hc 77 (by decide)]; exact (k7 i hi).1) (fun i hi => by rw [hc 78 (by decide)]; exact ⟨(k7 i hi).2.1.1, Nat.lt_of_lt_of_le (k7 i hi).2.1.2 k2⟩) (by omega)) calX8_layTrial stX8_layTrial lX8_71 dX8_seek_54 (by decide) (by simp [Value.category]) rfl (Nat.le_refl _) (Nat.le_refl _) sh_75 rfl (fun gi' gl' gr' ⟨q1, q2, q3⟩ => ?_)
        rw [q1, q2, q3]
        clear q1 q2 q3
        obtain ⟨E3, d1, d2, d3, d4, d5⟩ := fSk1_in (n := n) (i := i) s3 hV8 hv s1 (by omega)
        have hM2 : zit (fLayS v) (fCutB (fCho X.1 (V * Pn + 1) (if Pn = 0 then 1 else Pn) n i) k E2) 3 = fSk1 V Pn n v k X.1 i := by unfold fSk1; rw [k5, zi_nI (by omega)]
        rw [hM2]
        have hG : fGo 76 (nI 0) W Pn E3 K (fSk1 V Pn n v k X.1 i, X.2) = fSk2 V W Pn K n v k X i := by unfold fSk2; rw [d3, zi_nI (by omega)]
        refine zA_aload_0 dX8_seek_57 ?_
        refine zA_getR sh_75 fX8_33 dX8_seek_58 rfl (rt_75_2 _) ?_
        refine zA_aload_0 dX8_seek_61 ?_
        refine zA_getR sh_75 fX8_12 dX8_seek_62 rfl (rt_75_3 _) ?_
        refine zA_iconst (nI 0) dX8_seek_65 ic_0 ?_
        refine zA_cVv (ct_goThroughB g (fSk1 V Pn n v k X.1 i) X.2 rr d4 (nI 0)) calX0_goThrough stX0_goThrough lX8_74 dX8_seek_66 (by decide) (by simp [Value.category]) rfl (Nat.le_refl _) (Nat.le_refl _) sh_57 rfl (fun gi' gl' gr' ⟨q1, q2, q3⟩ => ?_)
        rw [q1, q2, q3]
        clear q1 q2 q3
        rw [hG]
        refine zA_iload_6 dX8_seek_69 ?_
        refine zA_if_eq 81 dX8_seek_71 (by decide) (fun b1 => ?_) (fun b1 => ?_)
        · have b2 : i = 0 := by
            rw [← nI_0] at b1
            exact (nI_eq (by omega) (by decide)).mp b1
          refine zA_aload_0 dX8_seek_81 ?_
          refine zA_cVv (ct_keep g (fSk2 V W Pn K n v k X i).1 (fSk2 V W Pn K n v k X i).2 76) calX8_keep stX8_keep lX8_83 dX8_seek_82 (by decide) (by simp [Value.category]) rfl (Nat.le_refl _) (Nat.le_refl _) sh_75 rfl (fun gi' gl' gr' ⟨q1, q2, q3⟩ => ?_)
          rw [q1, q2, q3]
          clear q1 q2 q3
          refine zA_iinc_6 (v := nI (i + 1)) dX8_seek_85 (zn_inc _) rfl ?_
          refine zA_goto 36 dX8_seek_88 (by decide) ?_
          have e9 : zit2 (fSkS V W Pn K n v k) (fSk0 gi E K v, gl) (i + 1) = (fKeep (fSk2 V W Pn K n v k X i).1, (fSk2 V W Pn K n v k X i).2) := by show fSkS V W Pn K n v k (zit2 (fSkS V W Pn K n v k) (fSk0 gi E K v, gl) i) i = _; rw [hX]; exact if_pos (Or.inl b2)
          have h7 := ih (i + 1) 76 (by omega) (fun _ => rfl)
          rw [e9] at h7
          exact h7
        · have b2 : ¬ i = 0 := fun z => b1 (by rw [z]; exact nI_0)
          refine zA_aload_0 dX8_seek_74 ?_
          refine zA_cVi (ct_isBetter g (fSk2 V W Pn K n v k X i).1 (fSk2 V W Pn K n v k X i).2 76) calX8_isBetter stX8_isBetter lX8_79 dX8_seek_75 (by decide) (by simp [Value.category]) rfl (Nat.le_refl _) (Nat.le_refl _) sh_75 rfl (fun zz gi' gl' gr' ⟨hz, q1, q2, q3⟩ => ?_)
          rw [hz, q1, q2, q3]
          clear hz q1 q2 q3
          refine zA_if_eqB 85 dX8_seek_78 (by decide) (fun b3 => ?_) (fun b3 => ?_)
          · refine zA_iinc_6 (v := nI (i + 1)) dX8_seek_85 (zn_inc _) rfl ?_
            refine zA_goto 36 dX8_seek_88 (by decide) ?_
            have e9 : zit2 (fSkS V W Pn K n v k) (fSk0 gi E K v, gl) (i + 1) = fSk2 V W Pn K n v k X i := by show fSkS V W Pn K n v k (zit2 (fSkS V W Pn K n v k) (fSk0 gi E K v, gl) i) i = _; rw [hX]; exact if_neg (fun z => z.elim b2 b3)
            have h7 := ih (i + 1) 76 (by omega) (fun _ => rfl)
            rw [e9] at h7
            exact h7
          · refine zA_aload_0 dX8_seek_81 ?_
            refine zA_cVv (ct_keep g (fSk2 V W Pn K n v k X i).1 (fSk2 V W Pn K n v k X i).2 76) calX8_keep stX8_keep lX8_83 dX8_seek_82 (by decide) (by simp [Value.category]) rfl (Nat.le_refl _) (Nat.le_refl _) sh_75 rfl (fun gi' gl' gr' ⟨q1, q2, q3⟩ => ?_)
            rw [q1, q2, q3]
            clear q1 q2 q3
            refine zA_iinc_6 (v := nI (i + 1)) dX8_seek_85 (zn_inc _) rfl ?_
            refine zA_goto 36 dX8_seek_88 (by decide) ?_
            have e9 : zit2 (fSkS V W Pn K n v k) (fSk0 gi E K v, gl) (i + 1) = (fKeep (fSk2 V W Pn K n v k X i).1, (fSk2 V W Pn K n v k X i).2) := by show fSkS V W Pn K n v k (zit2 (fSkS V W Pn K n v k) (fSk0 gi E K v, gl) i) i = _; rw [hX]; exact if_pos (Or.inr b3)
            have h7 := ih (i + 1) 76 (by omega) (fun _ => rfl)
            rw [e9] at h7
            exact h7
  exact key R 0 r (by omega) (fun z => absurd z (Nat.lt_irrefl 0))
