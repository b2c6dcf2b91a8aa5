/-! how many entries a van has in a night -/
def zPc (M : zm_I) (q n w : Nat) : Nat → Nat
  | 0 => 0
  | e + 1 => zPc M q n w e + (if M (q + 1) e = nI n ∧ M (q + 2) e = nI w then 1 else 0)
def zPlX (q E : Nat) (M : zm_I) : Prop := ∀ n w, n < 4 → w < 3 → M (q + 8) (n * 3 + w) = nI (zPc M q n w E)
theorem zPc_le (M : zm_I) (q n w : Nat) : ∀ E, zPc M q n w E ≤ E
  | 0 => Nat.le_refl _
  | E + 1 => by
    show zPc M q n w E + _ ≤ E + 1
    have := zPc_le M q n w E
    split <;> omega
theorem zPc_cg {M M' : zm_I} {q n w : Nat} : ∀ E, (∀ e, e < E → M' (q + 1) e = M (q + 1) e ∧ M' (q + 2) e = M (q + 2) e) → zPc M' q n w E = zPc M q n w E
  | 0, _ => rfl
  | E + 1, h => by
    show zPc M' q n w E + (if M' (q + 1) E = nI n ∧ M' (q + 2) E = nI w then 1 else 0) = zPc M q n w E + (if M (q + 1) E = nI n ∧ M (q + 2) E = nI w then 1 else 0)
    rw [(h E (by omega)).1, (h E (by omega)).2, zPc_cg E (fun e he => h e (by omega))]
theorem zPc_pos {M : zm_I} {q n w e : Nat} (h : M (q + 1) e = nI n ∧ M (q + 2) e = nI w) : ∀ E, e < E → 0 < zPc M q n w E
  | 0, he => absurd he (Nat.not_lt_zero _)
  | E + 1, he => by
    show 0 < zPc M q n w E + _
    by_cases c : e = E
    · subst c
      rw [if_pos h]
      omega
    · have := zPc_pos h E (by omega)
      omega
theorem zPc_mono (M : zm_I) (q n w k : Nat) : ∀ d, zPc M q n w k ≤ zPc M q n w (k + d)
  | 0 => Nat.le_refl _
  | d + 1 => Nat.le_trans (zPc_mono M q n w k d) (Nat.le_add_right _ _)
theorem zPlX_h {q W E : Nat} {M : zm_I} (hW : W ≤ 3) (hE : E ≤ 27) (h : zPlX q E M) : zPlH q W E M := fun n w e hn hw he h0 hm => by
  rw [h n w hn (by omega)] at h0
  have h1 := zPc_pos hm E he
  have h2 := zPc_le M q n w E
  exact absurd ((nI_leI (b := 0) (by omega) (by decide)).mp h0) (by omega)
theorem zPlX_addA {M : zm_I} {E n w : Nat} {a p : Int32} (hE : E < 27) (hn : n < 4) (hw : w < 3) (h : zPlX 27 E M) : zPlX 27 (E + 1) (fAddEA M E n w a p) := fun n' w' hn' hw' => by
  have c : zPc (fAddEA M E n w a p) 27 n' w' E = zPc M 27 n' w' E := zPc_cg E (fun e he => ⟨fAddEA_far M (by decide) (by decide) (by omega), fAddEA_far M (by decide) (by decide) (by omega)⟩)
  have e1 : fAddEA M E n w a p (27 + 1) E = nI n := by unfold fAddEA; rw [zs_nq (by decide), zs_nq (by decide), zs_nq (by decide), zs_nq (by decide), zs_nq (by decide), zs_eq]
  have e2 : fAddEA M E n w a p (27 + 2) E = nI w := by unfold fAddEA; rw [zs_nq (by decide), zs_nq (by decide), zs_nq (by decide), zs_nq (by decide), zs_eq]
  have e3 : fAddEA M E n w a p (27 + 8) (n' * 3 + w') = if n' * 3 + w' = n * 3 + w then M (27 + 8) (n * 3 + w) + nI 1 else M (27 + 8) (n' * 3 + w') := by
    unfold fAddEA
    rw [zs_nq (by decide), zs_at]
    by_cases d : n' * 3 + w' = n * 3 + w
    · rw [if_pos ⟨rfl, d⟩, if_pos d]
    · rw [if_neg (fun z => d z.2), if_neg d, zs_nq (by decide), zs_nq (by decide), zs_nq (by decide), zs_nq (by decide)]
  show _ = nI (zPc (fAddEA M E n w a p) 27 n' w' E + (if fAddEA M E n w a p (27 + 1) E = nI n' ∧ fAddEA M E n w a p (27 + 2) E = nI w' then 1 else 0))
  rw [e3, c, e1, e2]
  by_cases d : n' = n ∧ w' = w
  · obtain ⟨d1, d2⟩ := d
    subst d1 d2
    rw [if_pos rfl, if_pos ⟨rfl, rfl⟩, h n' w' hn' hw', nI_add]
  · have d1 : ¬ (nI n = nI n' ∧ nI w = nI w') := fun z => d ⟨((nI_eq (by omega) (by omega)).mp z.1).symm, ((nI_eq (by omega) (by omega)).mp z.2).symm⟩
    rw [if_neg (by omega), if_neg d1, h n' w' hn' hw', Nat.add_zero]
theorem zPlX_cutA {M : zm_I} {k E W Pn : Nat} (hW : W ≤ 3) (hE : E ≤ 27) (hk : k ≤ E) (hn : zEn 27 W Pn E M) (h : zPlX 27 E M) : zPlX 27 k (fCutA M k E) := by
  have hm : ∀ m, k + m ≤ E → ∀ n w, n < 4 → w < 3 → fCutLA M k m 35 (n * 3 + w) = M 35 (n * 3 + w) - nI (zPc M 27 n w (k + m) - zPc M 27 n w k) := by
    intro m
    induction m with
    | zero =>
      intro _ n w hn' hw'
      show M 35 (n * 3 + w) = _
      rw [Nat.add_zero, Nat.sub_self]
      have e : nI 0 = (0 : Int32) := rfl
      rw [e, Int32.sub_zero]
    | succ m ih =>
      intro hkm n w hn' hw'
      obtain ⟨⟨x1, x2⟩, ⟨y1, y2⟩, _⟩ := hn (k + m) (by omega)
      show zs (fCutLA M k m) 35 (zi (M 28 (k + m)) * 3 + zi (M 29 (k + m))) (fCutLA M k m 35 (zi (M 28 (k + m)) * 3 + zi (M 29 (k + m))) - nI 1) 35 (n * 3 + w) = _
      have hs : zPc M 27 n w (k + (m + 1)) = zPc M 27 n w (k + m) + (if M (27 + 1) (k + m) = nI n ∧ M (27 + 2) (k + m) = nI w then 1 else 0) := rfl
      have hmo := zPc_mono M 27 n w k m
      rw [hs, zs_at]
      by_cases d : zi (M 28 (k + m)) = n ∧ zi (M 29 (k + m)) = w
      · obtain ⟨d1, d2⟩ := d
        rw [d1, d2, if_pos ⟨rfl, rfl⟩, if_pos ⟨by rw [← d1]; exact x1, by rw [← d2]; exact y1⟩, ih (by omega) n w hn' hw', i32_ss, nI_add]
        congr 2
        omega
      · have d1 : ¬ (M (27 + 1) (k + m) = nI n ∧ M (27 + 2) (k + m) = nI w) := fun z => d ⟨by rw [z.1]; exact zi_nI (by omega), by rw [z.2]; exact zi_nI (by omega)⟩
        have y3 : zi (M 29 (k + m)) < 3 := by
          have : zi (M 29 (k + m)) < W := y2
          omega
        rw [if_neg (by omega), if_neg d1, ih (by omega) n w hn' hw', Nat.add_zero]
  intro n w hn' hw'
  have c : zPc (fCutA M k E) 27 n w k = zPc M 27 n w k := zPc_cg k (fun e he => by unfold fCutA; rw [zs_nq (by decide), zs_nq (by decide), fCutLA_nq _ _ (by decide), fCutLA_nq _ _ (by decide)]; exact ⟨rfl, rfl⟩)
  rw [c]
  unfold fCutA
  rw [zs_nq (by decide)]
  have e := hm (E - k) (by omega) n w hn' hw'
  rw [show k + (E - k) = E by omega] at e
  have h9 : M 35 (n * 3 + w) = nI (zPc M 27 n w E) := h n w hn' hw'
  have hmo : zPc M 27 n w k ≤ zPc M 27 n w E := by
    have := zPc_mono M 27 n w k (E - k)
    rwa [show k + (E - k) = E by omega] at this
  show fCutLA M k (E - k) 35 (n * 3 + w) = _
  rw [e, h9, pk_sub (by omega)]
  congr 1
  omega
theorem zPlX_takeA {gi : zm_I} {v : Int32} {W Pn E : Nat} (hW : W ≤ 3) (hE : E ≤ 24) (hn : zEn 27 W Pn E gi) : ∀ i, i ≤ E → ∃ K, K ≤ i ∧ fTakeLA gi v i 27 8 = nI K ∧ zPlX 27 K (fTakeLA gi v i)
  | 0, _ => ⟨0, Nat.le_refl _, by show fTake0A gi 27 8 = _; unfold fTake0A; rw [zm_une (by decide), zs_eq], fun n w hn' hw' => by
    show fTake0A gi 35 (n * 3 + w) = nI 0
    unfold fTake0A
    rw [va_up_self]
    show (if n * 3 + w < 12 then nI 0 else _) = nI 0
    rw [if_pos (by omega)]⟩
  | i + 1, hi => by
    obtain ⟨K, hK, h8, hp⟩ := zPlX_takeA hW hE hn i (by omega) (v := v)
    obtain ⟨K2, hK2, h82, hf⟩ := fTakeLA_inv gi v i (by omega)
    obtain ⟨⟨x1, x2⟩, ⟨y1, y2⟩, _⟩ := hn i (by omega)
    have f28 : fTakeLA gi v i 28 i = gi 28 i := hf 28 i (Nat.le_refl _) (by decide) (by decide)
    have f29 : fTakeLA gi v i 29 i = gi 29 i := hf 29 i (Nat.le_refl _) (by decide) (by decide)
    show ∃ K, K ≤ i + 1 ∧ fTakeSA gi v (fTakeLA gi v i) i 27 8 = nI K ∧ zPlX 27 K (fTakeSA gi v (fTakeLA gi v i) i)
    unfold fTakeSA
    by_cases h : fTakeLA gi v i 29 i = v
    · rw [if_pos h]
      exact ⟨K, by omega, h8, hp⟩
    · rw [if_neg h, h8, zi_nI (by omega)]
      refine ⟨K + 1, by omega, fAddEA_8 _ _ _ _ _ _, zPlX_addA (by omega) ?_ ?_ hp⟩
      · rw [f28]; exact x2
      · rw [f29]
        have : zi (gi 29 i) < W := y2
        omega
theorem zPlX_addB {M : zm_I} {E n w : Nat} {a p : Int32} (hE : E < 27) (hn : n < 4) (hw : w < 3) (h : zPlX 76 E M) : zPlX 76 (E + 1) (fAddEB M E n w a p) := fun n' w' hn' hw' => by
  have c : zPc (fAddEB M E n w a p) 76 n' w' E = zPc M 76 n' w' E := zPc_cg E (fun e he => ⟨fAddEB_far M (by decide) (by decide) (by omega), fAddEB_far M (by decide) (by decide) (by omega)⟩)
  have e1 : fAddEB M E n w a p (76 + 1) E = nI n := by unfold fAddEB; rw [zs_nq (by decide), zs_nq (by decide), zs_nq (by decide), zs_nq (by decide), zs_nq (by decide), zs_eq]
  have e2 : fAddEB M E n w a p (76 + 2) E = nI w := by unfold fAddEB; rw [zs_nq (by decide), zs_nq (by decide), zs_nq (by decide), zs_nq (by decide), zs_eq]
  have e3 : fAddEB M E n w a p (76 + 8) (n' * 3 + w') = if n' * 3 + w' = n * 3 + w then M (76 + 8) (n * 3 + w) + nI 1 else M (76 + 8) (n' * 3 + w') := by
    unfold fAddEB
    rw [zs_nq (by decide), zs_at]
    by_cases d : n' * 3 + w' = n * 3 + w
    · rw [if_pos ⟨rfl, d⟩, if_pos d]
    · rw [if_neg (fun z => d z.2), if_neg d, zs_nq (by decide), zs_nq (by decide), zs_nq (by decide), zs_nq (by decide)]
  show _ = nI (zPc (fAddEB M E n w a p) 76 n' w' E + (if fAddEB M E n w a p (76 + 1) E = nI n' ∧ fAddEB M E n w a p (76 + 2) E = nI w' then 1 else 0))
  rw [e3, c, e1, e2]
  by_cases d : n' = n ∧ w' = w
  · obtain ⟨d1, d2⟩ := d
    subst d1 d2
    rw [if_pos rfl, if_pos ⟨rfl, rfl⟩, h n' w' hn' hw', nI_add]
  · have d1 : ¬ (nI n = nI n' ∧ nI w = nI w') := fun z => d ⟨((nI_eq (by omega) (by omega)).mp z.1).symm, ((nI_eq (by omega) (by omega)).mp z.2).symm⟩
    rw [if_neg (by omega), if_neg d1, h n' w' hn' hw', Nat.add_zero]
theorem zPlX_cutB {M : zm_I} {k E W Pn : Nat} (hW : W ≤ 3) (hE : E ≤ 27) (hk : k ≤ E) (hn : zEn 76 W Pn E M) (h : zPlX 76 E M) : zPlX 76 k (fCutB M k E) := by
  have hm : ∀ m, k + m ≤ E → ∀ n w, n < 4 → w < 3 → fCutLB M k m 84 (n * 3 + w) = M 84 (n * 3 + w) - nI (zPc M 76 n w (k + m) - zPc M 76 n w k) := by
    intro m
    induction m with
    | zero =>
      intro _ n w hn' hw'
      show M 84 (n * 3 + w) = _
      rw [Nat.add_zero, Nat.sub_self]
      have e : nI 0 = (0 : Int32) := rfl
      rw [e, Int32.sub_zero]
    | succ m ih =>
      intro hkm n w hn' hw'
      obtain ⟨⟨x1, x2⟩, ⟨y1, y2⟩, _⟩ := hn (k + m) (by omega)
      show zs (fCutLB M k m) 84 (zi (M 77 (k + m)) * 3 + zi (M 78 (k + m))) (fCutLB M k m 84 (zi (M 77 (k + m)) * 3 + zi (M 78 (k + m))) - nI 1) 84 (n * 3 + w) = _
      have hs : zPc M 76 n w (k + (m + 1)) = zPc M 76 n w (k + m) + (if M (76 + 1) (k + m) = nI n ∧ M (76 + 2) (k + m) = nI w then 1 else 0) := rfl
      have hmo := zPc_mono M 76 n w k m
      rw [hs, zs_at]
      by_cases d : zi (M 77 (k + m)) = n ∧ zi (M 78 (k + m)) = w
      · obtain ⟨d1, d2⟩ := d
        rw [d1, d2, if_pos ⟨rfl, rfl⟩, if_pos ⟨by rw [← d1]; exact x1, by rw [← d2]; exact y1⟩, ih (by omega) n w hn' hw', i32_ss, nI_add]
        congr 2
        omega
      · have d1 : ¬ (M (76 + 1) (k + m) = nI n ∧ M (76 + 2) (k + m) = nI w) := fun z => d ⟨by rw [z.1]; exact zi_nI (by omega), by rw [z.2]; exact zi_nI (by omega)⟩
        have y3 : zi (M 78 (k + m)) < 3 := by
          have : zi (M 78 (k + m)) < W := y2
          omega
        rw [if_neg (by omega), if_neg d1, ih (by omega) n w hn' hw', Nat.add_zero]
  intro n w hn' hw'
  have c : zPc (fCutB M k E) 76 n w k = zPc M 76 n w k := zPc_cg k (fun e he => by unfold fCutB; rw [zs_nq (by decide), zs_nq (by decide), fCutLB_nq _ _ (by decide), fCutLB_nq _ _ (by decide)]; exact ⟨rfl, rfl⟩)
  rw [c]
  unfold fCutB
  rw [zs_nq (by decide)]
  have e := hm (E - k) (by omega) n w hn' hw'
  rw [show k + (E - k) = E by omega] at e
  have h9 : M 84 (n * 3 + w) = nI (zPc M 76 n w E) := h n w hn' hw'
  have hmo : zPc M 76 n w k ≤ zPc M 76 n w E := by
    have := zPc_mono M 76 n w k (E - k)
    rwa [show k + (E - k) = E by omega] at this
  show fCutLB M k (E - k) 84 (n * 3 + w) = _
  rw [e, h9, pk_sub (by omega)]
  congr 1
  omega
theorem zPlX_takeB {gi : zm_I} {v : Int32} {W Pn E : Nat} (hW : W ≤ 3) (hE : E ≤ 24) (hn : zEn 27 W Pn E gi) : ∀ i, i ≤ E → ∃ K, K ≤ i ∧ fTakeLB gi v i 76 8 = nI K ∧ zPlX 76 K (fTakeLB gi v i)
  | 0, _ => ⟨0, Nat.le_refl _, by show fTake0B gi 76 8 = _; unfold fTake0B; rw [zm_une (by decide), zs_eq], fun n w hn' hw' => by
    show fTake0B gi 84 (n * 3 + w) = nI 0
    unfold fTake0B
    rw [va_up_self]
    show (if n * 3 + w < 12 then nI 0 else _) = nI 0
    rw [if_pos (by omega)]⟩
  | i + 1, hi => by
    obtain ⟨K, hK, h8, hp⟩ := zPlX_takeB hW hE hn i (by omega) (v := v)
    obtain ⟨K2, hK2, h82, hf⟩ := fTakeLB_inv gi v i (by omega)
    obtain ⟨⟨x1, x2⟩, ⟨y1, y2⟩, _⟩ := hn i (by omega)
    have f28 : fTakeLB gi v i 28 i = gi 28 i := hf 28 i (Nat.le_refl _) (by decide) (by decide)
    have f29 : fTakeLB gi v i 29 i = gi 29 i := hf 29 i (Nat.le_refl _) (by decide) (by decide)
    show ∃ K, K ≤ i + 1 ∧ fTakeSB gi v (fTakeLB gi v i) i 76 8 = nI K ∧ zPlX 76 K (fTakeSB gi v (fTakeLB gi v i) i)
    unfold fTakeSB
    by_cases h : fTakeLB gi v i 29 i = v
    · rw [if_pos h]
      exact ⟨K, by omega, h8, hp⟩
    · rw [if_neg h, h8, zi_nI (by omega)]
      refine ⟨K + 1, by omega, fAddEB_8 _ _ _ _ _ _, zPlX_addB (by omega) ?_ ?_ hp⟩
      · rw [f28]; exact x2
      · rw [f29]
        have : zi (gi 29 i) < W := y2
        omega
