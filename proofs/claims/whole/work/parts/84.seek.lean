/-! a step of the search -/
def zSkI (W Pn K k : Nat) (C D : zm_I) : Prop := zAg2 C D ∧ (∀ i, i < K → D 81 i = C 32 i ∧ D 82 i = C 33 i ∧ D 83 i = C 34 i) ∧ ∃ E2, k ≤ E2 ∧ E2 ≤ k + 3 ∧ D 76 8 = nI E2 ∧ zRs 76 W Pn E2 K D ∧ zPlX 76 E2 D
theorem zPlX_cg {q E : Nat} {M M' : zm_I} (h1 : M' (q + 1) = M (q + 1)) (h2 : M' (q + 2) = M (q + 2)) (h8 : M' (q + 8) = M (q + 8)) (h : zPlX q E M) : zPlX q E M' := fun n w hn hw => by
  rw [h8, h n w hn hw, zPc_cg (M := M) (M' := M') E (fun e _ => ⟨by rw [h1], by rw [h2]⟩)]
theorem zSk_cut {V W Pn K k n i Cc P : Nat} {C D : zm_I} (hk : k ≤ 24) (hn : n ≤ 3) (hI : zSkI W Pn K k C D) :
    fCutB (fCho D Cc P n i) k (zi (D 76 8)) 76 8 = nI k ∧ zPlX 76 k (fCutB (fCho D Cc P n i) k (zi (D 76 8))) ∧ (∀ j, j < 3 → fCutB (fCho D Cc P n i) k (zi (D 76 8)) 85 j = if j < n then zDv P (zDg Cc n i j) else -1) ∧ ∀ a, a ≠ 76 → a ≠ 84 → a ≠ 85 → fCutB (fCho D Cc P n i) k (zi (D 76 8)) a = D a := by
  obtain ⟨_, _, E2, e1, e2, e3, e4, e5⟩ := hI
  have hz : zi (D 76 8) = E2 := by rw [e3]; exact zi_nI (by omega)
  have hc : ∀ a, a ≠ 85 → fCho D Cc P n i a = D a := fun a ha => fCho_nq ha
  rw [hz]
  refine ⟨fCutB_8 _ _ _, zPlX_cutB (W := W) (Pn := Pn) e4.2.1 (by omega) e1 (fun e he => ?_) (zPlX_cg (hc 77 (by decide)) (hc 78 (by decide)) (hc 84 (by decide)) e5), fun j hj => ?_, fun a h1 h2 h3 => ?_⟩
  · rw [hc (76 + 1) (by decide), hc (76 + 2) (by decide), hc (76 + 3) (by decide), hc (76 + 4) (by decide)]
    exact e4.2.2.2.2.2.2.1 e he
  · rw [fCutB_nq _ _ _ (by decide) (by decide)]
    exact fCho_dg hn hj
  · rw [fCutB_nq _ _ _ h1 h2]
    exact hc a h3
theorem zSk_rest {v n : Nat} {B : zm_I} (h : ∀ j, n ≤ j → j < 3 → B 85 j = -1) : ∀ m, n + m ≤ 3 → zit (fLayS v) B (n + m) = zit (fLayS v) B n
  | 0, _ => rfl
  | m + 1, hm => by
    show fLayS v (zit (fLayS v) B (n + m)) (n + m) = _
    rw [zSk_rest h m (by omega)]
    have e : zit (fLayS v) B n 85 (n + m) = -1 := by
      rw [zit_nq (fLayS_nq (by omega) (by decide)) B n]
      exact h (n + m) (by omega) (by omega)
    generalize zit (fLayS v) B n = L at e ⊢
    unfold fLayS
    rw [if_pos e]
theorem zSk_lay {V Pn v n i k j Kj Cc : Nat} {B X : zm_I} (hV : V ≤ 8) (hP : Pn ≤ 4) (hv : v < 3) (hk : k ≤ 24) (hj : j < n) (hn : n ≤ 3) (hC : Cc = V * Pn + 1) (hB : ∀ j, j < 3 → B 85 j = if j < n then zDv (if Pn = 0 then 1 else Pn) (zDg Cc n i j) else -1) (h8 : zit (fLayS v) B j 76 8 = nI Kj) (hK : Kj ≤ k + j) (hp : zPlX 76 Kj (zit (fLayS v) B j)) (hr : zRow Kj (zit (fLayS v) B j) X) :
    (zDg Cc n i j = 0 → zit (fLayS v) B (j + 1) = zit (fLayS v) B j) ∧ (zDg Cc n i j ≠ 0 → zit (fLayS v) B (j + 1) 76 8 = nI (Kj + 1) ∧ zPlX 76 (Kj + 1) (zit (fLayS v) B (j + 1)) ∧ zRow (Kj + 1) (zit (fLayS v) B (j + 1)) (rSets X Kj (nI j) (nI v) (nI ((zDg Cc n i j - 1) / Pn)) (nI ((zDg Cc n i j - 1) % Pn)))) := by
  have e85 : zit (fLayS v) B j 85 j = zDv (if Pn = 0 then 1 else Pn) (zDg Cc n i j) := by
    rw [zit_nq (fLayS_nq (by omega) (by decide)) B j, hB j (by omega), if_pos hj]
  have hd := zDg_lt (C := Cc) (n := n) (num := i) (k := j) (by omega) hj
  have hs : zit (fLayS v) B (j + 1) = fLayS v (zit (fLayS v) B j) j := rfl
  rw [hs]
  generalize zit (fLayS v) B j = L at *
  generalize zDg Cc n i j = d at *
  refine ⟨fun h0 => ?_, fun h0 => ?_⟩
  · unfold fLayS
    rw [if_pos (by rw [e85, h0]; rfl)]
  · obtain ⟨z1, z2, z3, z4, z5⟩ := zDv_rd hV hP (by omega) h0
    have eP : (if Pn = 0 then 1 else Pn) = Pn := if_neg (by omega)
    have ev : L 85 j = nI (4 * ((d - 1) / Pn) + (d - 1) % Pn) := by
      rw [e85, eP]
      exact if_neg h0
    have hne : ¬ L 85 j = -1 := by
      rw [ev]
      intro z
      exact absurd (by rw [z]; decide) (nI_pos (n := 4 * ((d - 1) / Pn) + (d - 1) % Pn) (by omega))
    have ef : fLayS v L j = fAddEB L Kj j v (nI ((d - 1) / Pn)) (nI ((d - 1) % Pn)) := by
      unfold fLayS
      rw [if_neg hne, h8, zi_nI (by omega), ev, z5, z4]
    rw [ef]
    exact ⟨fAddEB_8 _ _ _ _ _ _, zPlX_addB (by omega) (by omega) hv hp, zRow_add hr⟩
theorem zSk_77 {v : Nat} {B : zm_I} {k : Nat} (h8 : B 76 8 = nI k) (hk : k ≤ 24) {a e : Nat} (ha : 77 ≤ a ∧ a ≤ 80) (he : e < k) : ∀ m, m ≤ 3 → zit (fLayS v) B m a e = B a e
  | 0, _ => rfl
  | m + 1, hm => by
    obtain ⟨K, k1, k2, k3⟩ := fLay_8 (w := v) h8 hk m (by omega)
    have ih := zSk_77 (v := v) h8 hk ha he m (by omega)
    show fLayS v (zit (fLayS v) B m) m a e = B a e
    generalize zit (fLayS v) B m = L at k3 ih ⊢
    unfold fLayS
    split
    · exact ih
    · rw [k3, zi_nI (by omega), fAddEB_far _ (by omega) (by omega) (by omega)]
      exact ih
theorem zSk_next {V W Pn K k n v i E3 : Nat} {C : zm_I} {P : zm_I × zm_J} (hV : V ≤ 8) (hv : v < W) (hk : k ≤ 24) (hn : n ≤ 3) (hI : zSkI W Pn K k C P.1) (h8 : fSk1 V Pn n v k P.1 i 76 8 = nI E3) (hE3 : E3 < 2 ^ 31) (hp : zPlX 76 E3 (fSk1 V Pn n v k P.1 i)) :
    zRs 76 W Pn E3 K (fSk1 V Pn n v k P.1 i) ∧ k ≤ E3 ∧ E3 ≤ k + 3 ∧ zAg2 C (fSk1 V Pn n v k P.1 i) ∧ (∀ i', i' < K → fSk1 V Pn n v k P.1 i 81 i' = C 32 i' ∧ fSk1 V Pn n v k P.1 i 82 i' = C 33 i' ∧ fSk1 V Pn n v k P.1 i 83 i' = C 34 i') ∧ (fSk2 V W Pn K n v k P i = fGo 76 (nI 0) W Pn E3 K (fSk1 V Pn n v k P.1 i, P.2)) ∧ zSkI W Pn K k C (fSkS V W Pn K n v k P i).1 ∧ (∀ a e, 77 ≤ a → a ≤ 80 → e < k → (fSkS V W Pn K n v k P i).1 a e = P.1 a e) := by
  obtain ⟨i1, i2, E2, e1, e2, e3, e4, e5⟩ := id hI
  obtain ⟨E4, b1, b2, b3, b4, b5⟩ := fSk1_in (V := V) (n := n) (i := i) e4 hV hv e1 hk
  have e43 : E4 = E3 := by
    rw [h8] at b3
    exact ((nI_eq hE3 (by omega)).mp b3).symm
  subst e43
  have hz : zi (fSk1 V Pn n v k P.1 i 76 8) = E4 := by rw [b3]; exact zi_nI (by omega)
  have h2 : fSk2 V W Pn K n v k P i = fGo 76 (nI 0) W Pn E4 K (fSk1 V Pn n v k P.1 i, P.2) := by
    unfold fSk2
    rw [hz]
  have c1 : zAg2 C (fSk1 V Pn n v k P.1 i) := fun a ha => (b5 a ha).trans (i1 a ha)
  have hcut := zSk_cut (V := V) (n := n) (i := i) (Cc := V * Pn + 1) (P := if Pn = 0 then 1 else Pn) hk hn hI
  have h81 : ∀ a, 81 ≤ a → a ≤ 83 → fSk1 V Pn n v k P.1 i a = P.1 a := fun a h1 h2 => by
    unfold fSk1
    rw [zit_nq (fLayS_nq (by omega) (by omega))]
    exact hcut.2.2.2 a (by omega) (by omega) (by omega)
  have h77 : ∀ a e, 77 ≤ a → a ≤ 80 → e < k → fSk1 V Pn n v k P.1 i a e = P.1 a e := fun a e h1 h2 h3 => by
    unfold fSk1
    rw [zSk_77 hcut.1 hk ⟨h1, h2⟩ h3 3 (by omega)]
    rw [hcut.2.2.2 a (by omega) (by omega) (by omega)]
  have hh : ∀ i', i' < K → fSk1 V Pn n v k P.1 i 81 i' = C 32 i' ∧ fSk1 V Pn n v k P.1 i 82 i' = C 33 i' ∧ fSk1 V Pn n v k P.1 i 83 i' = C 34 i' := fun i' hi' => by
    rw [h81 81 (by decide) (by decide), h81 82 (by decide) (by decide), h81 83 (by decide) (by decide)]
    exact i2 i' hi'
  have hA : zAg (fSk1 V Pn n v k P.1 i) (fSk2 V W Pn K n v k P i).1 := by
    rw [h2]
    exact fGo_ag (P := (fSk1 V Pn n v k P.1 i, P.2)) (by decide) b4
  have hS : ∀ a, a ≠ 75 → a ≠ 86 → ¬ (57 ≤ a ∧ a ≤ 73) → (fSkS V W Pn K n v k P i).1 a = fSk1 V Pn n v k P.1 i a := fun a h3 h4 h5 => by
    unfold fSkS
    split
    · exact (fKeep_nq _ h3 h4).trans (hA a h5)
    · exact hA a h5
  refine ⟨b4, b1, b2, c1, hh, h2, ⟨fun a ha => (hS a (by omega) (by omega) (by omega)).trans (c1 a ha), fun i' hi' => ?_, E4, b1, b2, ?_, ?_, ?_⟩, fun a e h3 h4 h5 => ?_⟩
  · rw [hS 81 (by decide) (by decide) (by decide), hS 82 (by decide) (by decide) (by decide), hS 83 (by decide) (by decide) (by decide)]
    exact hh i' hi'
  · rw [hS 76 (by decide) (by decide) (by decide)]; exact b3
  · have hR2 : zRs 76 W Pn E4 K (fSk2 V W Pn K n v k P i).1 := zRs_ag (by decide) hA b4
    unfold fSkS
    split
    · exact zRs_rows (fun a h1 h2 => fKeep_nq _ h1 h2) hR2
    · exact hR2
  · exact zPlX_cg (hS 77 (by decide) (by decide) (by decide)) (hS 78 (by decide) (by decide) (by decide)) (hS 84 (by decide) (by decide) (by decide)) hp
  · rw [hS a (by omega) (by omega) (by omega)]
    exact h77 a e h3 h4 h5
theorem zSk_0 {W Pn E K v : Nat} {C X : zm_I} (hR : zRs 27 W Pn E K C) (hE : E ≤ 24) (h0 : X 87 18 = nI 0) (hx : ∀ e, e < E → X 99 (4 * e) = C 28 e ∧ X 99 (4 * e + 1) = C 29 e ∧ X 99 (4 * e + 2) = C 30 e ∧ X 99 (4 * e + 3) = C 31 e) :
    ∃ k, k ≤ E ∧ fSk0 C E K v 76 8 = nI k ∧ zSkI W Pn K k C (fSk0 C E K v) ∧ zit (rClrS (nI v)) X E 87 18 = nI k ∧ zRow k (fSk0 C E K v) (zit (rClrS (nI v)) X E) ∧ (∀ a, a ≠ 99 → a ≠ 87 → zit (rClrS (nI v)) X E a = X a) ∧ ∀ j, j ≠ 18 → zit (rClrS (nI v)) X E 87 j = X 87 j := by
  obtain ⟨k, k1, k2, k3, k4⟩ := fSk0_in (V := 0) (v := v) hR hE
  have hEn : zEn 27 W Pn E C := hR.2.2.2.2.2.2.1
  obtain ⟨K1, a1, a2, a3, a4, a5, a6, a7⟩ := zClrB (v := nI v) hE hEn h0 hx E (Nat.le_refl _)
  obtain ⟨K2, b1, b2, b3⟩ := zPlX_takeB (v := nI v) hR.2.1 hE hEn E (Nat.le_refl _)
  have q8 : fSk0 C E K v 76 8 = fTakeLB C (nI v) E 76 8 := fHandL_8 _ K
  have e1 : K1 = k := by rw [q8, a2] at k2; exact (nI_eq (by omega) (by omega)).mp k2
  have e2 : K2 = k := by rw [q8, b2] at k2; exact (nI_eq (by omega) (by omega)).mp k2
  subst e1 e2
  have hq : ∀ a, a ≠ 76 → a ≠ 81 → a ≠ 82 → a ≠ 83 → fSk0 C E K v a = fTakeLB C (nI v) E a := fun a h1 h2 h3 h4 => fHandL_nq _ h1 h2 h3 h4 K
  refine ⟨K2, k1, k2, ⟨k4, fun i hi => ?_, K2, Nat.le_refl _, by omega, k2, k3, ?_⟩, a3, fun e he => ?_, a6, a7⟩
  · obtain ⟨r1, r2, r3⟩ := fHandL_rows (fTakeLB C (nI v) E) K i hi
    rw [fTakeLB_nq (by omega) (by decide)] at r1 r2 r3
    exact ⟨r1, r2, r3⟩
  · exact zPlX_cg (hq 77 (by decide) (by decide) (by decide) (by decide)) (hq 78 (by decide) (by decide) (by decide) (by decide)) (hq 84 (by decide) (by decide) (by decide) (by decide)) b3
  · rw [hq 77 (by decide) (by decide) (by decide) (by decide), hq 78 (by decide) (by decide) (by decide) (by decide), hq 79 (by decide) (by decide) (by decide) (by decide), hq 80 (by decide) (by decide) (by decide) (by decide)]
    exact a4 e he
