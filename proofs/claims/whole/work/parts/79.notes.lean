/-! notes -/
def lbt (x : Int64) (i : Nat) : Bool := x.toBitVec.getLsbD i
theorem l_ext {x y : Int64} (h : ∀ i, i < 64 → lbt x i = lbt y i) : x = y := Int64.toBitVec_inj.mp (BitVec.eq_of_getLsbD_eq (fun i hi => h i hi))
theorem l_or (x y : Int64) (i : Nat) : lbt (x ||| y) i = (lbt x i || lbt y i) := by unfold lbt; rw [Int64.toBitVec_or, BitVec.getLsbD_or]
theorem l_and (x y : Int64) (i : Nat) : lbt (x &&& y) i = (lbt x i && lbt y i) := by unfold lbt; rw [Int64.toBitVec_and, BitVec.getLsbD_and]
theorem l_0 (i : Nat) : lbt 0 i = false := BitVec.getLsbD_zero
theorem l_one : ∀ i, i < 64 → lbt 1 i = decide (i = 0) := by decide +kernel
theorem l_sl : ∀ n, n < 64 → (((nI n).toInt64 &&& 63).toBitVec.smod 64).toNat = n := by decide +kernel
theorem l_shl (n : Nat) (hn : n < 64) (x : Int64) {i : Nat} (hi : i < 64) : lbt (x <<< ((nI n).toInt64 &&& 63)) i = (decide (n ≤ i) && lbt x (i - n)) := by
  unfold lbt
  rw [Int64.toBitVec_shiftLeft]
  show (x.toBitVec <<< (((nI n).toInt64 &&& 63).toBitVec.smod 64).toNat).getLsbD i = _
  rw [l_sl n hn, BitVec.getLsbD_shiftLeft]
  rcases Nat.lt_or_ge i n with h | h
  · simp [h, Nat.not_le.mpr h]
  · simp [hi, h, Nat.not_lt.mpr h]
theorem l_sshr (n : Nat) (hn : n < 64) (x : Int64) {i : Nat} (hi : i < 64) : lbt (x >>> ((nI n).toInt64 &&& 63)) i = if n + i < 64 then lbt x (n + i) else lbt x 63 := by
  unfold lbt
  rw [Int64.toBitVec_shiftRight]
  show (x.toBitVec.sshiftRight (((nI n).toInt64 &&& 63).toBitVec.smod 64).toNat).getLsbD i = _
  rw [l_sl n hn, BitVec.getLsbD_sshiftRight, BitVec.msb_eq_getLsbD_last]
  simp [hi]
theorem l_bit {s : Int64} {i : Nat} (hi : i < 64) : lg_cmp ((s >>> ((nI i).toInt64 &&& 63)) &&& 1) 0 = 0 ↔ lbt s i = false := by
  have e0 : lbt (s >>> ((nI i).toInt64 &&& 63)) 0 = lbt s i := by rw [l_sshr i hi s (by decide), Nat.add_zero, if_pos hi]
  rw [lg_cmp_eq]
  constructor
  · intro h
    have h2 : lbt ((s >>> ((nI i).toInt64 &&& 63)) &&& 1) 0 = lbt 0 0 := congrArg (fun z => lbt z 0) h
    rw [l_and, e0, l_one 0 (by decide), l_0] at h2
    simpa using h2
  · intro h
    refine l_ext (fun k hk => ?_)
    rw [l_and, l_one k hk, l_0]
    by_cases k0 : k = 0
    · subst k0
      rw [e0, h]
      rfl
    · simp [k0]
theorem l_put {s : Int64} {j k : Nat} (hj : j < 64) (hk : k < 64) : lbt (s ||| ((1 : Int64) <<< ((nI j).toInt64 &&& 63))) k = (lbt s k || decide (k = j)) := by
  rw [l_or, l_shl j hj _ hk]
  by_cases h : j ≤ k
  · rw [l_one (k - j) (by omega)]
    simp only [h, decide_true, Bool.true_and]
    congr 1
    exact decide_eq_decide.mpr (by omega)
  · have h2 : ¬ k = j := by omega
    simp [h, h2]
def rKn (X : zm_I) : Nat → (Nat → Int32) → Nat → Int32
  | 0, c => c
  | m + 1, c => rKn X m (if 0 ≤ X 101 m then c else if c m = 0 then c else upd c (zi (X 102 m)) (nI 0))
def rRp (X : zm_I) (c : Nat → Int32) (v n : Int32) : Nat → Int32
  | 0 => -1
  | m + 1 => if c m = 0 then rRp X c v n m else if X 101 m = v then (if X 102 m = n then X 103 m else rRp X c v n m) else rRp X c v n m
/-- notes in class and reference -/
def zNt (T : Nat) (C X : zm_I) : Prop := ∀ i, i < T →
  (C 55 i = -1 ∧ X 101 i = C 52 i ∧ X 102 i = C 53 i ∧ X 103 i = C 54 i ∧ zx (C 52 i) 8 ∧ zx (C 53 i) 4 ∧ zx (C 54 i) 501) ∨ (∃ j, j < i ∧ C 55 i = nI j ∧ X 101 i = -1 ∧ X 102 i = nI j)
theorem rKn_hi {X : zm_I} {C : zm_I} {T : Nat} (hN : zNt T C X) (hT : T ≤ 40) : ∀ (m : Nat) (c : Nat → Int32), m ≤ T → ∀ k, m ≤ k + 1 → rKn X m c k = c k
  | 0, c, _, k, _ => rfl
  | m + 1, c, hm, k, hk => by
    show rKn X m _ k = c k
    rw [rKn_hi hN hT m _ (by omega) k (by omega)]
    split
    · rfl
    · split
      · rfl
      · next h1 h2 =>
        rcases hN m (by omega) with h | ⟨j, hj, _, _, e⟩
        · exact absurd (by rw [h.2.1, h.2.2.2.2.1.1]; exact nI_pos' (by have := h.2.2.2.2.1.2; omega)) h1
        · rw [upd_at, e, zi_nI (by omega), if_neg (by omega)]
theorem zNote {X C : zm_I} {T : Nat} (hN : zNt T C X) (hT : T ≤ 40) {v n : Nat} (hv : v < 8) (hn : n < 4) : ∀ (m : Nat) (p : zm_I × Int64) (c : Nat → Int32), m ≤ T → (∀ k, k < m → (lbt p.2 k = true ↔ c k = 0)) →
    (fSetL C m p).1 56 (v * 4 + n) = if p.1 56 (v * 4 + n) = -1 then rRp X (rKn X m c) (nI v) (nI n) m else p.1 56 (v * 4 + n)
  | 0, p, c, _, _ => by
    show p.1 56 (v * 4 + n) = if p.1 56 (v * 4 + n) = -1 then -1 else p.1 56 (v * 4 + n)
    split
    · next h => exact h
    · rfl
  | m + 1, p, c, hm, hb => by
    show (fSetL C m (fSetStep C m p)).1 56 (v * 4 + n) = _
    have hfin : rKn X (m + 1) c m = c m := rKn_hi hN hT (m + 1) c hm m (by omega)
    have hbm := hb m (by omega)
    have hlb := l_bit (s := p.2) (i := m) (by omega)
    by_cases hs : c m = 0
    · -- struck
      have e1 : fSetStep C m p = p := by
        unfold fSetStep
        rw [if_neg (fun z => by have := hlb.mp z; rw [hbm.mpr hs] at this; cases this)]
      have e2 : rKn X (m + 1) c = rKn X m c := by
        show rKn X m (if 0 ≤ X 101 m then c else if c m = 0 then c else _) = _
        rw [if_pos hs]
        split <;> rfl
      rw [e1, zNote hN hT hv hn m p c (by omega) (fun k hk => hb k (by omega))]
      rw [e2] at hfin ⊢
      show _ = if p.1 56 (v * 4 + n) = -1 then (if rKn X m c m = 0 then rRp X (rKn X m c) (nI v) (nI n) m else _) else _
      rw [if_pos (hfin.trans hs)]
    · have hf : lbt p.2 m = false := by
        cases h : lbt p.2 m with
        | false => rfl
        | true => exact absurd (hbm.mp h) hs
      have hcm : ¬ rKn X (m + 1) c m = 0 := by rw [hfin]; exact hs
      rcases hN m (by omega) with ⟨a1, a2, a3, a4, a5, a6, a7⟩ | ⟨j, hj, a1, a2, a3⟩
      · -- a report
        have e2 : rKn X (m + 1) c = rKn X m c := by
          show rKn X m (if 0 ≤ X 101 m then c else _) = _
          rw [if_pos (by rw [a2, a5.1]; exact nI_pos' (by have := a5.2; omega))]
        rw [e2] at hcm ⊢
        have e3 : rRp X (rKn X m c) (nI v) (nI n) (m + 1) = if (zi (C 52 m) = v ∧ zi (C 53 m) = n) then C 54 m else rRp X (rKn X m c) (nI v) (nI n) m := by
          have q1 : X 101 m = nI v ↔ zi (C 52 m) = v := by
            rw [a2, a5.1, zi_nI (by have := a5.2; omega)]
            exact nI_eq (by have := a5.2; omega) (by omega)
          have q2 : X 102 m = nI n ↔ zi (C 53 m) = n := by
            rw [a3, a6.1, zi_nI (by have := a6.2; omega)]
            exact nI_eq (by have := a6.2; omega) (by omega)
          show (if rKn X m c m = 0 then _ else if X 101 m = nI v then (if X 102 m = nI n then X 103 m else _) else _) = _
          rw [if_neg hcm]
          by_cases w1 : zi (C 52 m) = v
          · rw [if_pos (q1.mpr w1)]
            by_cases w2 : zi (C 53 m) = n
            · rw [if_pos (q2.mpr w2), if_pos ⟨w1, w2⟩, a4]
            · rw [if_neg (fun z => w2 (q2.mp z)), if_neg (fun z => w2 z.2)]
          · rw [if_neg (fun z => w1 (q1.mp z)), if_neg (fun z => w1 z.1)]
        have h54 : ¬ C 54 m = -1 := fun z => by
          have h7 := a7.1
          have h8 := nI_pos (n := zi (C 54 m)) (by have := a7.2; omega)
          rw [← h7, z] at h8
          exact h8 (by decide)
        have e1 : fSetStep C m p = if p.1 56 (zi (C 52 m) * 4 + zi (C 53 m)) = -1 then (zs p.1 56 (zi (C 52 m) * 4 + zi (C 53 m)) (C 54 m), p.2) else p := by
          unfold fSetStep
          rw [if_pos (hlb.mpr hf), if_pos a1]
        rw [e1, e3]
        have h5 := a5.2
        have h6 := a6.2
        by_cases w : zi (C 52 m) = v ∧ zi (C 53 m) = n
        · rw [w.1, w.2]
          by_cases w2 : p.1 56 (v * 4 + n) = -1
          · rw [if_pos w2, if_pos w2, if_pos ⟨rfl, rfl⟩, zNote hN hT hv hn m (zs p.1 56 (v * 4 + n) (C 54 m), p.2) c (by omega) (fun k hk => hb k (by omega))]
            simp only [zs_eq, if_neg h54]
          · rw [if_neg w2, if_neg w2, zNote hN hT hv hn m _ c (by omega) (fun k hk => hb k (by omega)), if_neg w2]
        · rw [if_neg w]
          split
          · rw [zNote hN hT hv hn m (zs p.1 56 (zi (C 52 m) * 4 + zi (C 53 m)) (C 54 m), p.2) c (by omega) (fun k hk => hb k (by omega))]
            have hz := zs_nj (gi := p.1) (q := 56) (v := C 54 m) (show v * 4 + n ≠ zi (C 52 m) * 4 + zi (C 53 m) by omega)
            simp only [hz]
          · rw [zNote hN hT hv hn m _ c (by omega) (fun k hk => hb k (by omega))]
      · -- a strike
        have e2 : rKn X (m + 1) c = rKn X m (upd c j (nI 0)) := by
          show rKn X m (if 0 ≤ X 101 m then c else if c m = 0 then c else upd c (zi (X 102 m)) (nI 0)) = _
          rw [if_neg (by rw [a2]; decide), if_neg hs, a3, zi_nI (by omega)]
        have e3 : rRp X (rKn X (m + 1) c) (nI v) (nI n) (m + 1) = rRp X (rKn X (m + 1) c) (nI v) (nI n) m := by
          show (if rKn X (m + 1) c m = 0 then _ else if X 101 m = nI v then (if X 102 m = nI n then X 103 m else _) else _) = _
          rw [if_neg hcm, if_neg (by rw [a2]; intro z; exact absurd (by rw [← z]; decide) (nI_pos (n := v) (by omega)))]
        have e1 : fSetStep C m p = (p.1, p.2 ||| ((1 : Int64) <<< ((nI j).toInt64 &&& 63))) := by
          unfold fSetStep
          rw [if_pos (hlb.mpr hf), if_neg (by rw [a1]; intro z; exact absurd (by rw [z]; decide) (nI_pos (n := j) (by omega))), a1]
        rw [e3, e2, e1, zNote hN hT hv hn m _ (upd c j (nI 0)) (by omega) (fun k hk => ?_)]
        dsimp only
        rw [l_put (by omega) (by omega), upd_at]
        by_cases w : k = j
        · rw [if_pos w]
          simp [w, nI_0]
        · rw [if_neg w]
          simp [w, hb k (by omega)]
theorem rRp_hi {X : zm_I} {c : Nat → Int32} {v n : Int32} {k : Nat} : ∀ d, (∀ i, k ≤ i → i < k + d → c i = 0) → rRp X c v n (k + d) = rRp X c v n k
  | 0, _ => rfl
  | d + 1, h => by
    show (if c (k + d) = 0 then rRp X c v n (k + d) else _) = _
    rw [if_pos (h (k + d) (by omega) (by omega))]
    exact rRp_hi d (fun i h1 h2 => h i h1 (by omega))
/-- what is known: the class's answer is the reference's -/
theorem zKnown {X C : zm_I} {T m : Nat} {c0 : Nat → Int32} (hN : zNt T C X) (hT : T ≤ 40) (hm : m ≤ T) (hc : ∀ k, k < 40 → c0 k = if k < m then nI 1 else nI 0) {v n : Nat} (hv : v < 8) (hn : n < 4) : fSettle C m 56 (v * 4 + n) = rRp X (rKn X m c0) (nI v) (nI n) T := by
  unfold fSettle
  rw [zNote hN hT hv hn m _ c0 hm (fun k hk => by dsimp only; rw [l_0, hc k (by omega), if_pos hk]; decide)]
  dsimp only
  have e0 : va_up C 56 (zfill (C 56) 32 (-1)) 56 (v * 4 + n) = -1 := by
    rw [va_up_self]
    show (if v * 4 + n < 32 then (-1 : Int32) else _) = -1
    rw [if_pos (by omega)]
  rw [if_pos e0]
  have e := rRp_hi (X := X) (c := rKn X m c0) (v := nI v) (n := nI n) (k := m) (T - m) (fun i h1 h2 => by
    rw [rKn_hi hN hT m c0 hm i (by omega), hc i (by omega), if_neg (by omega)]
    rfl)
  rw [show m + (T - m) = T by omega] at e
  exact e.symm
theorem rRp_rng {X C : zm_I} {T : Nat} (hN : zNt T C X) {c : Nat → Int32} {v n : Nat} (hv : v < 8) : ∀ m, m ≤ T → rRp X c (nI v) (nI n) m = -1 ∨ zx (rRp X c (nI v) (nI n) m) 501
  | 0, _ => Or.inl rfl
  | m + 1, hm => by
    have ih := rRp_rng hN (c := c) (v := v) (n := n) hv m (by omega)
    show (if c m = 0 then rRp X c (nI v) (nI n) m else if X 101 m = nI v then (if X 102 m = nI n then X 103 m else rRp X c (nI v) (nI n) m) else rRp X c (nI v) (nI n) m) = -1 ∨ zx (if c m = 0 then rRp X c (nI v) (nI n) m else if X 101 m = nI v then (if X 102 m = nI n then X 103 m else rRp X c (nI v) (nI n) m) else rRp X c (nI v) (nI n) m) 501
    by_cases h1 : c m = 0
    · rw [if_pos h1]; exact ih
    · rw [if_neg h1]
      by_cases h2 : X 101 m = nI v
      · rw [if_pos h2]
        by_cases h3 : X 102 m = nI n
        · rw [if_pos h3]
          rcases hN m (by omega) with h | ⟨j, _, _, e, _⟩
          · rw [h.2.2.2.1]; exact Or.inr h.2.2.2.2.2.2
          · rw [e] at h2
            exact absurd (by rw [← h2]; decide) (nI_pos (n := v) (by omega))
        · rw [if_neg h3]; exact ih
      · rw [if_neg h2]; exact ih
theorem ct_rKnow (g : zm_G) (gi : zm_I) (gl : zm_J) (r : Nat) (C : zm_I) {T n : Nat} (hN : zNt T C gi) (hT : T ≤ 40) (hn : n ≤ T)  : zC_v g yX11_know mX11_know 0 [.ref 87, .int (nI n)] zSH gi gl (zRT r) (fun gi' gl' gr' => (∀ a, a ≠ 104 → gi' a = gi a) ∧ (∃ c0 : Nat → Int32, (∀ k, k < 40 → c0 k = if k < n then nI 1 else nI 0) ∧ gi' 104 = rKn gi n c0) ∧ gl' = gl ∧ gr' = zRT r) := by
  refine zC_v_of [some (.ref 87), some (.int (nI n)), none] (by decide) rfl rfl (Nat.le_of_ble_eq_true rfl) (fun x => ?_)
  refine zA_iconst (nI 0) dX11_know_0 ic_0 ?_
  refine zA_istore_2 dX11_know_1 rfl ?_
  have dn : ∀ (c0 : Nat → Int32), (∀ k, k < 40 → c0 k = if k < n then nI 1 else nI 0) → ∀ (m : Nat) (X : zm_I), m ≤ n → (∀ a, a ≠ 104 → X a = gi a) → rKn gi m (X 104) = rKn gi n c0 → zB_v x g mX11_know 0 zSH (fun gi' gl' gr' => (∀ a, a ≠ 104 → gi' a = gi a) ∧ (∃ c0 : Nat → Int32, (∀ k, k < 40 → c0 k = if k < n then nI 1 else nI 0) ∧ gi' 104 = rKn gi n c0) ∧ gl' = gl ∧ gr' = zRT r) 34 [some (.ref 87), some (.int (nI n)), some (.int (nI m - nI 1))] [] X gl (zRT r) := by
    intro c0 hc0 m
    induction m with
    | zero =>
      intro X hm hX hK
      refine zA_iload_2 dX11_know_34 ?_
      refine zA_if_lt 74 dX11_know_35 (by decide) (fun h => ?_) (fun h => ?_)
      · exact zB_vret rfl dX11_know_74 (⟨hX, ⟨c0, hc0, hK⟩, rfl, rfl⟩)
      · exact absurd (by decide) h
    | succ m ih =>
      intro X hm hX hK
      rw [pk_sub (show 1 ≤ m + 1 by omega), show m + 1 - 1 = m by omega]
      have k101 : X 101 m = gi 101 m := by rw [hX 101 (by decide)]
      have k102 : X 102 m = gi 102 m := by rw [hX 102 (by decide)]
      have hK2 : rKn gi m (if 0 ≤ gi 101 m then X 104 else if X 104 m = 0 then X 104 else upd (X 104) (zi (gi 102 m)) (nI 0)) = rKn gi n c0 := hK
      refine zA_iload_2 dX11_know_34 ?_
      refine zA_if_lt 74 dX11_know_35 (by decide) (fun h => ?_) (fun h => ?_)
      · exact absurd h (nI_pos (by omega))
      · refine zA_aload_0 dX11_know_38 ?_
        refine zA_getR sh_87 fX11_49 dX11_know_39 rfl (rt_87_23 _) ?_
        refine zA_iload_2 dX11_know_42 ?_
        refine zA_iald (v := (gi 101 m)) m sh_101 dX11_know_43 rfl (by omega) (by decide) k101 ?_
        refine zA_if_ge 68 dX11_know_44 (by decide) (fun h1 => ?_) (fun h1 => ?_)
        · refine zA_iinc_2 (v := (nI m - nI 1)) dX11_know_68 (zn_dec _) rfl ?_
          refine zA_goto 34 dX11_know_71 (by decide) ?_
          rw [if_pos h1] at hK2
          exact ih X (by omega) hX hK2
        · refine zA_aload_0 dX11_know_47 ?_
          refine zA_getR sh_87 fX11_58 dX11_know_48 rfl (rt_87_26 _) ?_
          refine zA_iload_2 dX11_know_51 ?_
          refine zA_zald (v := (X 104 m)) m sh_104 dX11_know_52 rfl (by omega) (by decide) rfl ?_
          refine zA_if_eq 68 dX11_know_53 (by decide) (fun h2 => ?_) (fun h2 => ?_)
          · refine zA_iinc_2 (v := (nI m - nI 1)) dX11_know_68 (zn_dec _) rfl ?_
            refine zA_goto 34 dX11_know_71 (by decide) ?_
            rw [if_neg h1, if_pos h2] at hK2
            exact ih X (by omega) hX hK2
          · obtain ⟨j, hj, e102⟩ : ∃ j, j < m ∧ gi 102 m = nI j := by
              rcases hN m (by omega) with q | ⟨j, hj, _, _, e⟩
              · exact absurd (by rw [q.2.1, q.2.2.2.2.1.1]; exact nI_pos' (by have := q.2.2.2.2.1.2; omega)) h1
              · exact ⟨j, hj, e⟩
            rw [if_neg h1, if_neg h2, e102, zi_nI (by omega)] at hK2
            refine zA_aload_0 dX11_know_56 ?_
            refine zA_getR sh_87 fX11_58 dX11_know_57 rfl (rt_87_26 _) ?_
            refine zA_aload_0 dX11_know_60 ?_
            refine zA_getR sh_87 fX11_52 dX11_know_61 rfl (rt_87_24 _) ?_
            refine zA_iload_2 dX11_know_64 ?_
            refine zA_iald (v := (nI j)) m sh_102 dX11_know_65 rfl (by omega) (by decide) (k102.trans e102) ?_
            refine zA_iconst (nI 0) dX11_know_66 ic_0 ?_
            refine zS_zast j sh_104 dX11_know_67 rfl (by omega) (by decide) (by decide) ?_
            refine zA_iinc_2 (v := (nI m - nI 1)) dX11_know_68 (zn_dec _) rfl ?_
            refine zA_goto 34 dX11_know_71 (by decide) ?_
            exact ih _ (by omega) (fun a ha => (zs_nq ha).trans (hX a ha)) (by rw [← hK2]; unfold zs; rw [va_up_self])
  have up : ∀ (m k : Nat) (X : zm_I), k + m = 40 → (∀ a, a ≠ 104 → X a = gi a) → (∀ j, j < k → X 104 j = if j < n then nI 1 else nI 0) → zB_v x g mX11_know 0 zSH (fun gi' gl' gr' => (∀ a, a ≠ 104 → gi' a = gi a) ∧ (∃ c0 : Nat → Int32, (∀ k, k < 40 → c0 k = if k < n then nI 1 else nI 0) ∧ gi' 104 = rKn gi n c0) ∧ gl' = gl ∧ gr' = zRT r) 2 [some (.ref 87), some (.int (nI n)), some (.int (nI k))] [] X gl (zRT r) := by
    intro m
    induction m with
    | zero =>
      intro k X hk hX hc
      refine zA_iload_2 dX11_know_2 ?_
      refine zA_bipush (nI 40) dX11_know_3 bc_40 ?_
      refine zA_icmp_geN 30 dX11_know_5 (by decide) (by omega) (by omega) (fun h => ?_) (fun h => ?_)
      · refine zA_iload_1 dX11_know_30 ?_
        refine zA_iconst (nI 1) dX11_know_31 ic_1 ?_
        refine zA_isub dX11_know_32 ?_
        refine zA_istore_2 dX11_know_33 rfl ?_
        exact dn (X 104) (fun k hk => hc k (by omega)) n X (Nat.le_refl _) hX rfl
      · exact absurd h (by omega)
    | succ m ih =>
      intro k X hk hX hc
      refine zA_iload_2 dX11_know_2 ?_
      refine zA_bipush (nI 40) dX11_know_3 bc_40 ?_
      refine zA_icmp_geN 30 dX11_know_5 (by decide) (by omega) (by omega) (fun h => ?_) (fun h => ?_)
      · exact absurd h (by omega)
      · refine zA_aload_0 dX11_know_8 ?_
        refine zA_getR sh_87 fX11_58 dX11_know_9 rfl (rt_87_26 _) ?_
        refine zA_iload_2 dX11_know_12 ?_
        refine zA_iload_2 dX11_know_13 ?_
        refine zA_iload_1 dX11_know_14 ?_
        refine zA_icmp_geN 22 dX11_know_15 (by decide) (by omega) (by omega) (fun h1 => ?_) (fun h1 => ?_)
        · refine zA_iconst (nI 0) dX11_know_22 ic_0 ?_
          refine zS_zast k sh_104 dX11_know_23 rfl (by omega) (by decide) (by decide) ?_
          refine zA_iinc_2 (v := nI (k + 1)) dX11_know_24 (zn_inc _) rfl ?_
          refine zA_goto 2 dX11_know_27 (by decide) ?_
          refine ih (k + 1) _ (by omega) (fun a ha => (zs_nq ha).trans (hX a ha)) (fun j hj => ?_)
          rw [zs_at]
          by_cases e : j = k
          · rw [if_pos ⟨rfl, e⟩, e, if_neg (Nat.not_lt.mpr h1)]
          · rw [if_neg (fun z => e z.2)]
            exact hc j (by omega)
        · refine zA_iconst (nI 1) dX11_know_18 ic_1 ?_
          refine zA_goto 23 dX11_know_19 (by decide) ?_
          refine zS_zast k sh_104 dX11_know_23 rfl (by omega) (by decide) (by decide) ?_
          refine zA_iinc_2 (v := nI (k + 1)) dX11_know_24 (zn_inc _) rfl ?_
          refine zA_goto 2 dX11_know_27 (by decide) ?_
          refine ih (k + 1) _ (by omega) (fun a ha => (zs_nq ha).trans (hX a ha)) (fun j hj => ?_)
          rw [zs_at]
          by_cases e : j = k
          · rw [if_pos ⟨rfl, e⟩, e, if_pos h1]
          · rw [if_neg (fun z => e z.2)]
            exact hc j (by omega)
  exact up 40 0 gi (by omega) (fun _ _ => rfl) (fun j hj => absurd hj (Nat.not_lt_zero _))
theorem ct_rReported (g : zm_G) (gi : zm_I) (gl : zm_J) (r : Nat) {T v n : Nat} (hT : gi 87 22 = nI T) (hT40 : T ≤ 40)  : zC_i g yX11_reported mX11_reported 0 [.ref 87, .int (nI v), .int (nI n)] zSH gi gl (zRT r) (fun z gi' gl' gr' => z = rRp gi (gi 104) (nI v) (nI n) T ∧ gi' = gi ∧ gl' = gl ∧ gr' = zRT r) := by
  refine zC_i_of [some (.ref 87), some (.int (nI v)), some (.int (nI n)), none] (by decide) rfl rfl (Nat.le_of_ble_eq_true rfl) (fun x => ?_)
  refine zA_aload_0 dX11_reported_0 ?_
  refine zA_getI (v := (nI T)) sh_87 fX11_436 dX11_reported_1 rfl hT ?_
  refine zA_iconst (nI 1) dX11_reported_4 ic_1 ?_
  refine zA_isub dX11_reported_5 ?_
  refine zA_istore_3 dX11_reported_6 rfl ?_
  have dn : ∀ (m : Nat), m ≤ T → rRp gi (gi 104) (nI v) (nI n) m = rRp gi (gi 104) (nI v) (nI n) T → zB_i x g mX11_reported 0 zSH (fun z gi' gl' gr' => z = rRp gi (gi 104) (nI v) (nI n) T ∧ gi' = gi ∧ gl' = gl ∧ gr' = zRT r) 7 [some (.ref 87), some (.int (nI v)), some (.int (nI n)), some (.int (nI m - nI 1))] [] gi gl (zRT r) := by
    intro m
    induction m with
    | zero =>
      intro hm hR
      refine zA_iload_3 dX11_reported_7 ?_
      refine zA_if_lt 53 dX11_reported_8 (by decide) (fun h => ?_) (fun h => ?_)
      · refine zA_iconst (-1) dX11_reported_53 ic_m1 ?_
        exact zB_iret rfl dX11_reported_54 (⟨hR, rfl, rfl, rfl⟩)
      · exact absurd (by decide) h
    | succ m ih =>
      intro hm hR
      rw [pk_sub (show 1 ≤ m + 1 by omega), show m + 1 - 1 = m by omega]
      have hR2 : (if gi 104 m = 0 then rRp gi (gi 104) (nI v) (nI n) m else if gi 101 m = nI v then (if gi 102 m = nI n then gi 103 m else rRp gi (gi 104) (nI v) (nI n) m) else rRp gi (gi 104) (nI v) (nI n) m) = rRp gi (gi 104) (nI v) (nI n) T := hR
      refine zA_iload_3 dX11_reported_7 ?_
      refine zA_if_lt 53 dX11_reported_8 (by decide) (fun h => ?_) (fun h => ?_)
      · exact absurd h (nI_pos (by omega))
      · refine zA_aload_0 dX11_reported_11 ?_
        refine zA_getR sh_87 fX11_58 dX11_reported_12 rfl (rt_87_26 _) ?_
        refine zA_iload_3 dX11_reported_15 ?_
        refine zA_zald (v := (gi 104 m)) m sh_104 dX11_reported_16 rfl (by omega) (by decide) rfl ?_
        refine zA_if_eq 47 dX11_reported_17 (by decide) (fun h1 => ?_) (fun h1 => ?_)
        · refine zA_iinc_3 (v := (nI m - nI 1)) dX11_reported_47 (zn_dec _) rfl ?_
          refine zA_goto 7 dX11_reported_50 (by decide) ?_
          rw [if_pos h1] at hR2
          exact ih (by omega) hR2
        · refine zA_aload_0 dX11_reported_20 ?_
          refine zA_getR sh_87 fX11_49 dX11_reported_21 rfl (rt_87_23 _) ?_
          refine zA_iload_3 dX11_reported_24 ?_
          refine zA_iald (v := (gi 101 m)) m sh_101 dX11_reported_25 rfl (by omega) (by decide) rfl ?_
          refine zA_iload_1 dX11_reported_26 ?_
          refine zA_icmp_ne 47 dX11_reported_27 (by decide) (fun h2 => ?_) (fun h2 => ?_)
          · refine zA_iinc_3 (v := (nI m - nI 1)) dX11_reported_47 (zn_dec _) rfl ?_
            refine zA_goto 7 dX11_reported_50 (by decide) ?_
            rw [if_neg h1, if_neg h2] at hR2
            exact ih (by omega) hR2
          · refine zA_aload_0 dX11_reported_30 ?_
            refine zA_getR sh_87 fX11_52 dX11_reported_31 rfl (rt_87_24 _) ?_
            refine zA_iload_3 dX11_reported_34 ?_
            refine zA_iald (v := (gi 102 m)) m sh_102 dX11_reported_35 rfl (by omega) (by decide) rfl ?_
            refine zA_iload_2 dX11_reported_36 ?_
            refine zA_icmp_ne 47 dX11_reported_37 (by decide) (fun h3 => ?_) (fun h3 => ?_)
            · refine zA_iinc_3 (v := (nI m - nI 1)) dX11_reported_47 (zn_dec _) rfl ?_
              refine zA_goto 7 dX11_reported_50 (by decide) ?_
              rw [if_neg h1, if_pos h2, if_neg h3] at hR2
              exact ih (by omega) hR2
            · refine zA_aload_0 dX11_reported_40 ?_
              refine zA_getR sh_87 fX11_55 dX11_reported_41 rfl (rt_87_25 _) ?_
              refine zA_iload_3 dX11_reported_44 ?_
              refine zA_iald (v := (gi 103 m)) m sh_103 dX11_reported_45 rfl (by omega) (by decide) rfl ?_
              exact zB_iret rfl dX11_reported_46 (⟨by rw [if_neg h1, if_pos h2, if_pos h3] at hR2; exact hR2, rfl, rfl, rfl⟩)
  exact dn T (Nat.le_refl _) rfl
