/-! expected -/
def rOdS (c : Nat → Int32) (s : Int32) (Ps k : Nat) (o : Int64) : Int64 := o * (if Ps ≤ k % 2 then (if zbit s k then 0 else 1) else (if zbit s k then (c (k % 2)).toInt64 else (nI 16 - c (k % 2)).toInt64))
def rOd (c : Nat → Int32) (s : Int32) (Ps : Nat) : Nat → Int64
  | 0 => 1
  | k + 1 => rOdS c s Ps k (rOd c s Ps k)
abbrev zCan (i Ps : Nat) : Prop := nI i &&& (fAll (fTon (nI Ps)) ^^^ (-1)) = 0
theorem zMask : ∀ Ps, Ps < 3 → ∀ k, k < 32 → bt (fAll (fTon (nI Ps)) ^^^ (-1)) k = (decide (8 ≤ k) || decide (Ps ≤ k % 2)) := by decide +kernel
theorem bt_small {i k : Nat} (hi : i < 256) (hk : 8 ≤ k) : bt (nI i) k = false := by
  show (BitVec.ofNat 32 i).getLsbD k = false
  rw [BitVec.getLsbD_ofNat, Nat.testBit_lt_two_pow (Nat.lt_of_lt_of_le hi (Nat.pow_le_pow_right (show 0 < 2 by decide) hk)), Bool.and_false]
theorem zCan_iff : ∀ Ps, Ps < 3 → ∀ i, i < 256 → (zCan i Ps ↔ ∀ k, k < 8 → Ps ≤ k % 2 → ¬ zbit (nI i) k) := by
  intro Ps hP i hi
  constructor
  · intro h k hk hp hb
    rw [zbit_bt (by omega)] at hb
    have h2 : bt (nI i &&& (fAll (fTon (nI Ps)) ^^^ (-1))) k = bt 0 k := congrArg (fun z => bt z k) h
    rw [b_and, hb, zMask Ps hP k (by omega), b_0] at h2
    simp [hp] at h2
  · intro h
    refine b_ext (fun k hk => ?_)
    rw [b_and, zMask Ps hP k hk, b_0]
    by_cases k8 : 8 ≤ k
    · rw [bt_small hi k8, Bool.false_and]
    · by_cases kp : Ps ≤ k % 2
      · have h2 := h k (by omega) kp
        rw [zbit_bt (by omega)] at h2
        have h3 : bt (nI i) k = false := by
          cases hh : bt (nI i) k with
          | false => rfl
          | true => exact absurd hh h2
        rw [h3, Bool.false_and]
      · simp [k8, kp]
theorem rOd_0 {c : Nat → Int32} {s : Int32} {Ps k : Nat} (h : Ps ≤ k % 2) (hb : zbit s k) : ∀ n, rOd c s Ps (k + 1 + n) = 0
  | 0 => by
    show rOd c s Ps k * _ = 0
    rw [if_pos h, if_pos hb, Int64.mul_zero]
  | n + 1 => by
    show rOd c s Ps (k + 1 + n) * _ = 0
    rw [rOd_0 h hb n, Int64.zero_mul]
theorem rOd_pos {c : Nat → Int32} {s : Int32} {Ps : Nat} (hc : ∀ k, k < Ps → ∃ x, 1 ≤ x ∧ x ≤ 15 ∧ c k = nI x) (h : ∀ k, k < 8 → Ps ≤ k % 2 → ¬ zbit s k) : ∀ k, k ≤ 8 → 1 ≤ (rOd c s Ps k).toInt ∧ (rOd c s Ps k).toInt ≤ 16 ^ k
  | 0, _ => by
    show 1 ≤ (1 : Int64).toInt ∧ (1 : Int64).toInt ≤ 16 ^ 0
    decide
  | k + 1, hk => by
    obtain ⟨h1, h2⟩ := rOd_pos hc h k (by omega)
    have hp : (16 : Int) ^ k ≤ 16 ^ 7 := by
      have : (16 : Nat) ^ k ≤ 16 ^ 7 := Nat.pow_le_pow_right (by decide) (by omega)
      exact_mod_cast this
    have h16 : (16 : Int) ^ (k + 1) = 16 ^ k * 16 := Int.pow_succ _ _
    have hf : ∃ x : Int64, rOd c s Ps (k + 1) = rOd c s Ps k * x ∧ 1 ≤ x.toInt ∧ x.toInt ≤ 16 := by
      refine ⟨_, rfl, ?_⟩
      by_cases q : Ps ≤ k % 2
      · rw [if_pos q, if_neg (h k (by omega) q)]
        decide
      · rw [if_neg q]
        obtain ⟨x, x1, x2, ex⟩ := hc (k % 2) (by omega)
        rw [ex, pk_sub (by omega)]
        split
        · rw [Int32.toInt_toInt64, nI_toInt (by omega)]; omega
        · rw [Int32.toInt_toInt64, nI_toInt (by omega)]; omega
    obtain ⟨x, ex, x1, x2⟩ := hf
    rw [ex]
    generalize rOd c s Ps k = o at *
    have m1 : 1 * 1 ≤ o.toInt * x.toInt := Int.mul_le_mul h1 x1 (by decide) (by omega)
    have m2 : o.toInt * x.toInt ≤ 16 ^ k * 16 := Int.mul_le_mul h2 x2 (by omega) (by omega)
    have e := Kit.i64_mul (x := o) (y := x) (by omega) (by have : (16 : Int) ^ 7 = 268435456 := by decide
                                                           omega)
    rw [e, h16]
    omega
theorem rOd_ch {c : Nat → Int32} {gi : zm_I} {s : Int32} {Ps : Nat} (hP : Ps ≤ 2) (hc : ∀ k, k < Ps → c k = gi 18 k) (h : ∀ k, k < 8 → Ps ≤ k % 2 → ¬ zbit s k) : rOd c s Ps 8 = fChO gi s Ps 4 1 := by
  rcases (show Ps = 0 ∨ Ps = 1 ∨ Ps = 2 by omega) with rfl | rfl | rfl
  · have b0 := h 0 (by decide) (by decide)
    have b1 := h 1 (by decide) (by decide)
    have b2 := h 2 (by decide) (by decide)
    have b3 := h 3 (by decide) (by decide)
    have b4 := h 4 (by decide) (by decide)
    have b5 := h 5 (by decide) (by decide)
    have b6 := h 6 (by decide) (by decide)
    have b7 := h 7 (by decide) (by decide)
    simp [rOd, rOdS, fChO, fChI, b0, b1, b2, b3, b4, b5, b6, b7]
  · have b1 := h 1 (by decide) (by decide)
    have b3 := h 3 (by decide) (by decide)
    have b5 := h 5 (by decide) (by decide)
    have b7 := h 7 (by decide) (by decide)
    simp [rOd, rOdS, fChO, fChI, fChS, b1, b3, b5, b7, hc 0 (by decide)]
  · simp [rOd, rOdS, fChO, fChI, fChS, hc 0 (by decide), hc 1 (by decide)]
theorem rOd_ok {c : Nat → Int32} {gi : zm_I} {i Ps : Nat} (hi : i < 256) (hP : Ps ≤ 2) (hc : ∀ k, k < Ps → ∃ x, 1 ≤ x ∧ x ≤ 15 ∧ c k = nI x) (hc2 : ∀ k, k < Ps → c k = gi 18 k) : (lg_cmp (rOd c (nI i) Ps 8) 0 = 0 ↔ ¬ zCan i Ps) ∧ (zCan i Ps → rOd c (nI i) Ps 8 = fChO gi (nI i) Ps 4 1) := by
  have hi' := zCan_iff Ps (by omega) i hi
  have h0 : (0 : Int64).toInt = 0 := by decide
  refine ⟨⟨fun h hcan => ?_, fun h => ?_⟩, fun h => rOd_ch hP hc2 (hi'.mp h)⟩
  · have h1 := (rOd_pos (s := nI i) hc (hi'.mp hcan) 8 (by decide)).1
    rw [(lg_cmp_eq _ _).mp h, h0] at h1
    omega
  · rw [lg_cmp_eq]
    have h2 : ¬ ∀ k, k < 8 → Ps ≤ k % 2 → ¬ zbit (nI i) k := fun z => h (hi'.mpr z)
    by_cases hx : ∃ k, k < 8 ∧ Ps ≤ k % 2 ∧ zbit (nI i) k
    · obtain ⟨k, k1, k2, k3⟩ := hx
      have e := rOd_0 (c := c) k2 k3 (8 - (k + 1))
      rw [show k + 1 + (8 - (k + 1)) = 8 by omega] at e
      exact e
    · exact absurd (fun k k1 k2 k3 => hx ⟨k, k1, k2, k3⟩) h2
def zP16 : Nat → Int64
  | 0 => 1
  | k + 1 => zP16 k * 16
theorem zPlH_ag {q W E : Nat} {C C' : zm_I} (hq : q = 27 ∨ q = 76) (h : zAg C C') (hp : zPlH q W E C) : zPlH q W E C' := by
  unfold zPlH
  rw [h (q + 8) (by omega), h (q + 1) (by omega), h (q + 2) (by omega)]
  exact hp
theorem ct_rExpected (g : zm_G) (gi : zm_I) (gl : zm_J) (r : Nat) (C : zm_I) (cl : zm_J) {V W Pn E K Rd Ps : Nat} (hH : zRH V W Pn E K Rd C gi) (hPs : gi 87 10 = nI Ps) (hPc : C 3 5 = nI Ps) (hPs2 : Ps ≤ 2) (hch : ∀ k, k < Ps → gi 94 k = C 18 k ∧ ∃ x, 1 ≤ x ∧ x ≤ 15 ∧ gi 94 k = nI x) (a : Int32)  : zC_l g yX11_expected mX11_expected 7 [.ref 87, .int a] zSH gi gl (zRT r) (fun z gi' gl' gr' => ((nI 0 ≤ a ∧ a ≤ nI 3) ∧ a = nI 3 ∧ z = (1 : Int64) <<< ((nI (16 * Ps)).toInt64 &&& 63) ∧ zXh gi gi' ∧ (∀ q, q ≠ 121 → gl' q = gl q) ∧ gr' = zRT r) ∨ ((nI 0 ≤ a ∧ a ≤ nI 3) ∧ ¬ a = nI 3 ∧ z = (fExL W Pn E K Ps (zi a) ((C, cl), 0) 256).2 ∧ zXh gi gi' ∧ (∀ q, q ≠ 121 → gl' q = gl q) ∧ gr' = zRT r) ∨ (¬ (nI 0 ≤ a ∧ a ≤ nI 3) ∧ z = -9223372036854775808 ∧ zXh gi gi' ∧ (∀ q, q ≠ 121 → gl' q = gl q) ∧ gr' = zRT r)) := by
  obtain ⟨hRs, hS0, hPl, hDue, ⟨hV, hV8, hR, hRd, hw, hT, hC⟩, hE, hE24, hW, hP⟩ := id hH
  have hW3 := hRs.2.1
  have hP4 := hRs.2.2.2.1
  refine zC_l_of [some (.ref 87), some (.int a), none, none, none, none, none, none, none, none, none] (by decide) rfl rfl (Nat.le_of_ble_eq_true rfl) (fun x => ?_)
  refine zA_aload_0 dX11_expected_0 ?_
  refine zA_iconst (nI 0) dX11_expected_1 ic_0 ?_
  refine zS_putI sh_87 fX11_163 dX11_expected_2 rfl rfl ?_
  refine zA_iload_1 dX11_expected_5 ?_
  refine zA_iconst (nI 0) dX11_expected_6 ic_0 ?_
  refine zA_iconst (nI 3) dX11_expected_7 ic_3 ?_
  refine zA_cSi (ct_rIsIn g _ _ _ a ((nI 0)) ((nI 3))) calX11_isIn stX11_isIn lX11_172 dX11_expected_8 (by decide) (by simp [Value.category]) rfl (Nat.le_refl _) (Nat.le_refl _) (fun zz gi' gl' gr' ⟨hz, q1, q2, q3⟩ => ?_)
  rw [hz, q1, q2, q3]
  clear hz q1 q2 q3
  refine zA_if_neB 18 dX11_expected_11 (by decide) (fun g0 => ?_) (fun g0 => ?_)
  · obtain ⟨wh, hwh, rfl⟩ := zwi_nat g0 (by omega)
    have hzw : zi (nI wh) = wh := zi_nI (by omega)
    refine zA_lconst 1 dX11_expected_18 (by decide) ?_
    refine zA_lstore_2 dX11_expected_19 rfl ?_
    refine zA_iconst (nI 0) dX11_expected_20 ic_0 ?_
    refine zA_istore_4 dX11_expected_21 rfl ?_
    have kall : ∀ (m k : Nat) (l5 l6 l7 l8 l9 l10 : Option Value), k + m = 4 * Ps → zB_l x g mX11_expected 7 zSH (fun z gi' gl' gr' => ((nI 0 ≤ nI wh ∧ nI wh ≤ nI 3) ∧ nI wh = nI 3 ∧ z = (1 : Int64) <<< ((nI (16 * Ps)).toInt64 &&& 63) ∧ zXh gi gi' ∧ (∀ q, q ≠ 121 → gl' q = gl q) ∧ gr' = zRT r) ∨ ((nI 0 ≤ nI wh ∧ nI wh ≤ nI 3) ∧ ¬ nI wh = nI 3 ∧ z = (fExL W Pn E K Ps (zi (nI wh)) ((C, cl), 0) 256).2 ∧ zXh gi gi' ∧ (∀ q, q ≠ 121 → gl' q = gl q) ∧ gr' = zRT r) ∨ (¬ (nI 0 ≤ nI wh ∧ nI wh ≤ nI 3) ∧ z = -9223372036854775808 ∧ zXh gi gi' ∧ (∀ q, q ≠ 121 → gl' q = gl q) ∧ gr' = zRT r)) 23 [some (.ref 87), some (.int (nI wh)), some (.long (zP16 k)), none, some (.int (nI k)), l5, l6, l7, l8, l9, l10] [] (zs gi 87 2 (nI 0)) gl (zRT r) := by
      intro m
      induction m with
      | zero =>
        intro k l5 l6 l7 l8 l9 l10 hk
        refine zA_iload_4 dX11_expected_23 ?_
        refine zA_iconst (nI 4) dX11_expected_25 ic_4 ?_
        refine zA_aload_0 dX11_expected_26 ?_
        refine zA_getI (v := (nI Ps)) sh_87 fX11_183 dX11_expected_27 rfl hPs ?_
        refine zA_imulN dX11_expected_30 ?_
        refine zA_icmp_geN 46 dX11_expected_31 (by decide) (by omega) (by omega) (fun h => ?_) (fun h => ?_)
        · have e9 : k = 4 * Ps := by omega
          subst e9
          refine zA_iload_1 dX11_expected_46 ?_
          refine zA_iconst (nI 3) dX11_expected_47 ic_3 ?_
          refine zA_icmp_neN 53 dX11_expected_48 (by decide) (by omega) (by omega) (fun h3 => ?_) (fun h3 => ?_)
          · refine zA_aload_0 dX11_expected_53 ?_
            refine zA_cVv (ct_rLay g (zs gi 87 2 (nI 0)) gl r hV hV8 hR hRd hw (fun s hs => by rw [zs_nq (by omega)]; exact hT s hs)) calX11_lay stX11_lay lX11_199 dX11_expected_54 (by decide) (by simp [Value.category]) rfl (Nat.le_refl _) (Nat.le_refl _) sh_87 rfl (fun X1 gl1 gr1 ⟨hL, e2, e3⟩ => ?_)
            rw [e2, e3]
            clear e2 e3
            have hSX : zSR 27 W Pn E K C X1 := zRH_sr (zRH_thr hH) hL
            have x87 : ∀ j, j ≠ 2 → X1 87 j = gi 87 j := fun j hj => by rw [hL.1 87 (by decide), zs_nj hj]
            have x94 : X1 94 = gi 94 := by rw [hL.1 94 (by decide)]; rfl
            have hn3 : ¬ nI wh = nI 3 := fun z => h3 ((nI_eq (by omega) (by decide)).mp z)
            have hx1 : zXh gi X1 := zXh_tr (zXh_thr gi (nI 0)) (zXh_lay hL.1)
            have hEin := fun i => fExL_in (Ps := Ps) (wh := wh) (s := ((C, cl), 0)) hRs i
            refine zA_lconst 0 dX11_expected_57 (by decide) ?_
            refine zA_lstore_4 dX11_expected_58 rfl ?_
            refine zA_iconst (nI 0) dX11_expected_60 ic_0 ?_
            refine zA_istore_6 dX11_expected_61 rfl ?_
            have ko : ∀ (m i : Nat) (Sm : Int64) (X : zm_I) (Y : zm_J) (l7 l8 l9 l10 : Option Value), i + m = 256 → zXg X1 X → (∀ q, q ≠ 121 → Y q = gl q) → Sm = (fExL W Pn E K Ps wh ((C, cl), 0) i).2 → zB_l x g mX11_expected 7 zSH (fun z gi' gl' gr' => ((nI 0 ≤ nI wh ∧ nI wh ≤ nI 3) ∧ nI wh = nI 3 ∧ z = (1 : Int64) <<< ((nI (16 * Ps)).toInt64 &&& 63) ∧ zXh gi gi' ∧ (∀ q, q ≠ 121 → gl' q = gl q) ∧ gr' = zRT r) ∨ ((nI 0 ≤ nI wh ∧ nI wh ≤ nI 3) ∧ ¬ nI wh = nI 3 ∧ z = (fExL W Pn E K Ps (zi (nI wh)) ((C, cl), 0) 256).2 ∧ zXh gi gi' ∧ (∀ q, q ≠ 121 → gl' q = gl q) ∧ gr' = zRT r) ∨ (¬ (nI 0 ≤ nI wh ∧ nI wh ≤ nI 3) ∧ z = -9223372036854775808 ∧ zXh gi gi' ∧ (∀ q, q ≠ 121 → gl' q = gl q) ∧ gr' = zRT r)) 63 [some (.ref 87), some (.int (nI wh)), some (.long (zP16 (4 * Ps))), none, some (.long Sm), none, some (.int (nI i)), l7, l8, l9, l10] [] X Y (zRT r) := by
              intro m
              induction m with
              | zero =>
                intro i Sm X Y l7 l8 l9 l10 hi hX hY hSm
                refine zA_iload_6 dX11_expected_63 ?_
                refine zA_sipush (nI 256) dX11_expected_65 sc_256 ?_
                refine zA_icmp_geN 235 dX11_expected_68 (by decide) (by omega) (by omega) (fun h4 => ?_) (fun h4 => ?_)
                · have e9 : i = 256 := by omega
                  subst e9
                  refine zA_lload_4 dX11_expected_235 ?_
                  exact zB_lret rfl dX11_expected_237 (Or.inr (Or.inl ⟨g0, hn3, by rw [hzw]; exact hSm, zXh_tr hx1 (zXh_g hX), hY, rfl⟩))
                · exact absurd h4 (by omega)
              | succ m ih =>
                intro i Sm X Y l7 l8 l9 l10 hi hX hY hSm
                refine zA_iload_6 dX11_expected_63 ?_
                refine zA_sipush (nI 256) dX11_expected_65 sc_256 ?_
                refine zA_icmp_geN 235 dX11_expected_68 (by decide) (by omega) (by omega) (fun h4 => ?_) (fun h4 => ?_)
                · exact absurd h4 (by omega)
                · have k10 : X 87 10 = nI Ps := by rw [hX.2 10 (by omega), x87 10 (by decide)]; exact hPs
                  have k18 : X 87 18 = nI E := by rw [hX.2 18 (by omega), x87 18 (by decide)]; exact hE
                  have k94 : X 94 = gi 94 := by rw [hX.1 94 (by omega) (by decide), x94]
                  obtain ⟨iR, iA⟩ := hEin i
                  have iA' : zAg C (fExL W Pn E K Ps wh ((C, cl), 0) i).1.1 := iA
                  have hok := rOd_ok (c := gi 94) (gi := (fExL W Pn E K Ps wh ((C, cl), 0) i).1.1) (i := i) (Ps := Ps) h4 hPs2 (fun k hk => (hch k hk).2) (fun k hk => by rw [iA' 18 (by omega)]; exact (hch k hk).1)
                  have c35 : (fExL W Pn E K Ps wh ((C, cl), 0) i).1.1 3 5 = nI Ps := by rw [iA' 3 (by omega)]; exact hPc
                  have hnx : fExL W Pn E K Ps wh ((C, cl), 0) (i + 1) = fExS W Pn E K Ps wh (fExL W Pn E K Ps wh ((C, cl), 0) i) i := rfl
                  have ih2 := fun (Sm : Int64) (X : zm_I) (Y : zm_J) (l7 l8 l9 l10 : Option Value) => ih (i + 1) Sm X Y l7 l8 l9 l10 (by omega)
                  rw [hnx] at ih2
                  clear hnx
                  generalize (fExL W Pn E K Ps wh ((C, cl), 0) i) = D at *
                  refine zA_lconst 1 dX11_expected_71 (by decide) ?_
                  refine zA_lstore_7 dX11_expected_72 rfl ?_
                  refine zA_iconst (nI 0) dX11_expected_74 ic_0 ?_
                  refine zA_istore_9 dX11_expected_75 rfl ?_
                  have ki : ∀ (m k : Nat) (od : Int64) (l10 : Option Value), k + m = 8 → od = rOd (gi 94) (nI i) Ps k → zB_l x g mX11_expected 7 zSH (fun z gi' gl' gr' => ((nI 0 ≤ nI wh ∧ nI wh ≤ nI 3) ∧ nI wh = nI 3 ∧ z = (1 : Int64) <<< ((nI (16 * Ps)).toInt64 &&& 63) ∧ zXh gi gi' ∧ (∀ q, q ≠ 121 → gl' q = gl q) ∧ gr' = zRT r) ∨ ((nI 0 ≤ nI wh ∧ nI wh ≤ nI 3) ∧ ¬ nI wh = nI 3 ∧ z = (fExL W Pn E K Ps (zi (nI wh)) ((C, cl), 0) 256).2 ∧ zXh gi gi' ∧ (∀ q, q ≠ 121 → gl' q = gl q) ∧ gr' = zRT r) ∨ (¬ (nI 0 ≤ nI wh ∧ nI wh ≤ nI 3) ∧ z = -9223372036854775808 ∧ zXh gi gi' ∧ (∀ q, q ≠ 121 → gl' q = gl q) ∧ gr' = zRT r)) 77 [some (.ref 87), some (.int (nI wh)), some (.long (zP16 (4 * Ps))), none, some (.long Sm), none, some (.int (nI i)), some (.long od), none, some (.int (nI k)), l10] [] X Y (zRT r) := by
                    intro m
                    induction m with
                    | zero =>
                      intro k od l10 hk hod
                      refine zA_iload_9 dX11_expected_77 ?_
                      refine zA_bipush (nI 8) dX11_expected_79 bc_8 ?_
                      refine zA_icmp_geN 173 dX11_expected_81 (by decide) (by omega) (by omega) (fun h5 => ?_) (fun h5 => ?_)
                      · have e9 : k = 8 := by omega
                        subst e9
                        subst hod
                        refine zA_lload_7 dX11_expected_173 ?_
                        refine zA_lconst 0 dX11_expected_175 (by decide) ?_
                        refine zA_lcmp dX11_expected_176 ?_
                        refine zA_if_ne 183 dX11_expected_177 (by decide) (fun h6 => ?_) (fun h6 => ?_)
                        · have hcan : zCan i Ps := Decidable.not_not.mp (fun z => h6 (hok.1.mpr z))
                          have e9 : fExS W Pn E K Ps wh D i = (fGo 27 (nI i) W Pn E K D.1, D.2 + fChO (fGo 27 (nI i) W Pn E K D.1).1 (nI i) Ps 4 1 * ((fGo 27 (nI i) W Pn E K D.1).1 66 wh).toInt64) := by
                            unfold fExS
                            rw [c35, if_pos hcan]
                          rw [e9] at ih2
                          have hSD : zSR 27 W Pn E K D.1.1 X := zSR_ag hP4 (by decide) iA' hX hSX
                          have hG18 : (fGo 27 (nI i) W Pn E K D.1).1 18 = D.1.1 18 := fGo_ag (by decide) iR 18 (by omega)
                          have hfc : fChO (fGo 27 (nI i) W Pn E K D.1).1 (nI i) Ps 4 1 = rOd (gi 94) (nI i) Ps 8 := (rOd_ch (gi := (fGo 27 (nI i) W Pn E K D.1).1) hPs2 (fun k hk => by rw [hG18, iA' 18 (by omega)]; exact (hch k hk).1) ((zCan_iff Ps (by omega) i h4).mp hcan)).symm
                          rw [hfc] at ih2
                          refine zA_aload_0 dX11_expected_183 ?_
                          refine zA_iload_6 dX11_expected_184 ?_
                          refine zA_aload_0 dX11_expected_186 ?_
                          refine zA_getI (v := (nI E)) sh_87 fX11_202 dX11_expected_187 rfl k18 ?_
                          refine zA_cVv (ct_rRunIt g X Y r D.1.1 D.1.2 (by decide) iR hSD (zPlH_ag (by decide) iA' hPl) (fun p hp => by rw [iA' (23 + p) (by omega)]; exact hDue p hp) (nI i)) calX11_runIt stX11_runIt lX11_416 dX11_expected_190 (by decide) (by simp [Value.category]) rfl (Nat.le_refl _) (Nat.le_refl _) sh_87 rfl (fun X2 Y2 gr2 ⟨hF, hBk, hX2, hY2, e3⟩ => ?_)
                          rw [e3]
                          clear e3
                          obtain ⟨t0, t1, t2, t3, t4⟩ := hF.2.1
                          rcases (show wh = 0 ∨ wh = 1 ∨ wh = 2 by omega) with rfl | rfl | rfl
                          · refine zA_lload_4 dX11_expected_193 ?_
                            refine zA_lload_7 dX11_expected_195 ?_
                            refine zA_iload_1 dX11_expected_197 ?_
                            refine zA_if_ne 208 dX11_expected_198 (by decide) (fun hh => absurd hh (by decide)) (fun _ => ?_)
                            refine zA_aload_0 dX11_expected_201 ?_
                            refine zA_getI (v := (((fGo 27 (nI i) W Pn E K (D.1.1, D.1.2)).1 66 0))) sh_87 fX11_389 dX11_expected_202 rfl t0 ?_
                            refine zA_goto 224 dX11_expected_205 (by decide) ?_
                            refine zA_i2l dX11_expected_224 ?_
                            refine zA_lmul dX11_expected_225 ?_
                            refine zA_ladd dX11_expected_226 ?_
                            refine zA_lstore_4 dX11_expected_227 rfl ?_
                            refine zA_iinc_6 (v := nI (i + 1)) dX11_expected_229 (zn_inc _) rfl ?_
                            refine zA_goto 63 dX11_expected_232 (by decide) ?_
                            refine ih2 _ X2 Y2 _ _ _ _ (zXg_tr hX hX2) (fun q hq => (hY2 q hq).trans (hY q hq)) ?_
                            rw [hSm]
                          · refine zA_lload_4 dX11_expected_193 ?_
                            refine zA_lload_7 dX11_expected_195 ?_
                            refine zA_iload_1 dX11_expected_197 ?_
                            refine zA_if_ne 208 dX11_expected_198 (by decide) (fun _ => ?_) (fun hh => absurd hh (by decide))
                            refine zA_iload_1 dX11_expected_208 ?_
                            refine zA_iconst (nI 1) dX11_expected_209 ic_1 ?_
                            refine zA_icmp_neN 220 dX11_expected_210 (by decide) (by decide) (by decide) (fun hh => absurd hh (by decide)) (fun _ => ?_)
                            refine zA_aload_0 dX11_expected_213 ?_
                            refine zA_getI (v := (((fGo 27 (nI i) W Pn E K (D.1.1, D.1.2)).1 66 1))) sh_87 fX11_398 dX11_expected_214 rfl t1 ?_
                            refine zA_goto 224 dX11_expected_217 (by decide) ?_
                            refine zA_i2l dX11_expected_224 ?_
                            refine zA_lmul dX11_expected_225 ?_
                            refine zA_ladd dX11_expected_226 ?_
                            refine zA_lstore_4 dX11_expected_227 rfl ?_
                            refine zA_iinc_6 (v := nI (i + 1)) dX11_expected_229 (zn_inc _) rfl ?_
                            refine zA_goto 63 dX11_expected_232 (by decide) ?_
                            refine ih2 _ X2 Y2 _ _ _ _ (zXg_tr hX hX2) (fun q hq => (hY2 q hq).trans (hY q hq)) ?_
                            rw [hSm]
                          · refine zA_lload_4 dX11_expected_193 ?_
                            refine zA_lload_7 dX11_expected_195 ?_
                            refine zA_iload_1 dX11_expected_197 ?_
                            refine zA_if_ne 208 dX11_expected_198 (by decide) (fun _ => ?_) (fun hh => absurd hh (by decide))
                            refine zA_iload_1 dX11_expected_208 ?_
                            refine zA_iconst (nI 1) dX11_expected_209 ic_1 ?_
                            refine zA_icmp_neN 220 dX11_expected_210 (by decide) (by decide) (by decide) (fun _ => ?_) (fun hh => absurd hh (by decide))
                            refine zA_aload_0 dX11_expected_220 ?_
                            refine zA_getI (v := (((fGo 27 (nI i) W Pn E K (D.1.1, D.1.2)).1 66 2))) sh_87 fX11_392 dX11_expected_221 rfl t2 ?_
                            refine zA_i2l dX11_expected_224 ?_
                            refine zA_lmul dX11_expected_225 ?_
                            refine zA_ladd dX11_expected_226 ?_
                            refine zA_lstore_4 dX11_expected_227 rfl ?_
                            refine zA_iinc_6 (v := nI (i + 1)) dX11_expected_229 (zn_inc _) rfl ?_
                            refine zA_goto 63 dX11_expected_232 (by decide) ?_
                            refine ih2 _ X2 Y2 _ _ _ _ (zXg_tr hX hX2) (fun q hq => (hY2 q hq).trans (hY q hq)) ?_
                            rw [hSm]
                        · refine zA_goto 229 dX11_expected_180 (by decide) ?_
                          refine zA_iinc_6 (v := nI (i + 1)) dX11_expected_229 (zn_inc _) rfl ?_
                          refine zA_goto 63 dX11_expected_232 (by decide) ?_
                          have e9 : fExS W Pn E K Ps wh D i = D := by
                            unfold fExS
                            rw [c35, if_neg (hok.1.mp h6)]
                          rw [e9] at ih2
                          exact ih2 Sm X Y _ _ _ _ hX hY hSm
                      · exact absurd h5 (by omega)
                    | succ m ihk =>
                      intro k od l10 hk hod
                      have ihk2 := fun (od : Int64) (l10 : Option Value) => ihk (k + 1) od l10 (by omega)
                      have h94 : ∀ j, X 94 j = gi 94 j := fun j => by rw [k94]
                      refine zA_iload_9 dX11_expected_77 ?_
                      refine zA_bipush (nI 8) dX11_expected_79 bc_8 ?_
                      refine zA_icmp_geN 173 dX11_expected_81 (by decide) (by omega) (by omega) (fun h5 => ?_) (fun h5 => ?_)
                      · exact absurd h5 (by omega)
                      · refine zA_iload_6 dX11_expected_84 ?_
                        refine zA_iload_9 dX11_expected_86 ?_
                        refine zA_ishr dX11_expected_88 ?_
                        refine zA_iconst (nI 1) dX11_expected_89 ic_1 ?_
                        refine zA_iand dX11_expected_90 ?_
                        refine zA_iconst (nI 1) dX11_expected_91 ic_1 ?_
                        refine zA_icmp_ne 99 dX11_expected_92 (by decide) (fun hb => ?_) (fun hb => ?_)
                        · refine zA_iconst (nI 0) dX11_expected_99 ic_0 ?_
                          refine zA_istore_10 dX11_expected_100 rfl ?_
                          refine zA_iload_9 dX11_expected_102 ?_
                          refine zA_iconst (nI 2) dX11_expected_104 ic_2 ?_
                          refine zA_iremN dX11_expected_105 (by omega) (by omega) (by omega) ?_
                          refine zA_aload_0 dX11_expected_106 ?_
                          refine zA_getI (v := (nI Ps)) sh_87 fX11_183 dX11_expected_107 rfl k10 ?_
                          refine zA_icmp_ltN 131 dX11_expected_110 (by decide) (by omega) (by omega) (fun hl => ?_) (fun hl => ?_)
                          · refine zA_lload_7 dX11_expected_131 ?_
                            refine zA_iload_10 dX11_expected_133 ?_
                            refine zA_if_eq 151 dX11_expected_135 (by decide) (fun _ => ?_) (fun hh => absurd (by decide) hh)
                            refine zA_bipush (nI 16) dX11_expected_151 bc_16 ?_
                            refine zA_aload_0 dX11_expected_153 ?_
                            refine zA_getR sh_87 fX11_28 dX11_expected_154 rfl (rt_87_11 _) ?_
                            refine zA_iload_9 dX11_expected_157 ?_
                            refine zA_iconst (nI 2) dX11_expected_159 ic_2 ?_
                            refine zA_iremN dX11_expected_160 (by omega) (by omega) (by omega) ?_
                            refine zA_iald (v := (gi 94 (k % 2))) (k % 2) sh_94 dX11_expected_161 rfl (by omega) (by decide) (h94 (k % 2)) ?_
                            refine zA_isub dX11_expected_162 ?_
                            refine zA_i2l dX11_expected_163 ?_
                            refine zA_lmul dX11_expected_164 ?_
                            refine zA_lstore_7 dX11_expected_165 rfl ?_
                            refine zA_iinc_9 (v := nI (k + 1)) dX11_expected_167 (zn_inc _) rfl ?_
                            refine zA_goto 77 dX11_expected_170 (by decide) ?_
                            refine ihk2 _ _ ?_
                            show _ = rOd (gi 94) (nI i) Ps k * _
                            rw [if_neg (Nat.not_le.mpr hl), if_neg hb, ← hod]
                          · refine zA_lload_7 dX11_expected_113 ?_
                            refine zA_iload_10 dX11_expected_115 ?_
                            refine zA_if_eq 124 dX11_expected_117 (by decide) (fun _ => ?_) (fun hh => absurd (by decide) hh)
                            refine zA_lconst 1 dX11_expected_124 (by decide) ?_
                            refine zA_lmul dX11_expected_125 ?_
                            refine zA_lstore_7 dX11_expected_126 rfl ?_
                            refine zA_goto 167 dX11_expected_128 (by decide) ?_
                            refine zA_iinc_9 (v := nI (k + 1)) dX11_expected_167 (zn_inc _) rfl ?_
                            refine zA_goto 77 dX11_expected_170 (by decide) ?_
                            refine ihk2 _ _ ?_
                            show _ = rOd (gi 94) (nI i) Ps k * _
                            rw [if_pos hl, if_neg hb, ← hod]
                        · refine zA_iconst (nI 1) dX11_expected_95 ic_1 ?_
                          refine zA_goto 100 dX11_expected_96 (by decide) ?_
                          refine zA_istore_10 dX11_expected_100 rfl ?_
                          refine zA_iload_9 dX11_expected_102 ?_
                          refine zA_iconst (nI 2) dX11_expected_104 ic_2 ?_
                          refine zA_iremN dX11_expected_105 (by omega) (by omega) (by omega) ?_
                          refine zA_aload_0 dX11_expected_106 ?_
                          refine zA_getI (v := (nI Ps)) sh_87 fX11_183 dX11_expected_107 rfl k10 ?_
                          refine zA_icmp_ltN 131 dX11_expected_110 (by decide) (by omega) (by omega) (fun hl => ?_) (fun hl => ?_)
                          · refine zA_lload_7 dX11_expected_131 ?_
                            refine zA_iload_10 dX11_expected_133 ?_
                            refine zA_if_eq 151 dX11_expected_135 (by decide) (fun hh => absurd hh (by decide)) (fun _ => ?_)
                            refine zA_aload_0 dX11_expected_138 ?_
                            refine zA_getR sh_87 fX11_28 dX11_expected_139 rfl (rt_87_11 _) ?_
                            refine zA_iload_9 dX11_expected_142 ?_
                            refine zA_iconst (nI 2) dX11_expected_144 ic_2 ?_
                            refine zA_iremN dX11_expected_145 (by omega) (by omega) (by omega) ?_
                            refine zA_iald (v := (gi 94 (k % 2))) (k % 2) sh_94 dX11_expected_146 rfl (by omega) (by decide) (h94 (k % 2)) ?_
                            refine zA_i2l dX11_expected_147 ?_
                            refine zA_goto 164 dX11_expected_148 (by decide) ?_
                            refine zA_lmul dX11_expected_164 ?_
                            refine zA_lstore_7 dX11_expected_165 rfl ?_
                            refine zA_iinc_9 (v := nI (k + 1)) dX11_expected_167 (zn_inc _) rfl ?_
                            refine zA_goto 77 dX11_expected_170 (by decide) ?_
                            refine ihk2 _ _ ?_
                            show _ = rOd (gi 94) (nI i) Ps k * _
                            rw [if_neg (Nat.not_le.mpr hl), if_pos hb, ← hod]
                          · refine zA_lload_7 dX11_expected_113 ?_
                            refine zA_iload_10 dX11_expected_115 ?_
                            refine zA_if_eq 124 dX11_expected_117 (by decide) (fun hh => absurd hh (by decide)) (fun _ => ?_)
                            refine zA_lconst 0 dX11_expected_120 (by decide) ?_
                            refine zA_goto 125 dX11_expected_121 (by decide) ?_
                            refine zA_lmul dX11_expected_125 ?_
                            refine zA_lstore_7 dX11_expected_126 rfl ?_
                            refine zA_goto 167 dX11_expected_128 (by decide) ?_
                            refine zA_iinc_9 (v := nI (k + 1)) dX11_expected_167 (zn_inc _) rfl ?_
                            refine zA_goto 77 dX11_expected_170 (by decide) ?_
                            refine ihk2 _ _ ?_
                            show _ = rOd (gi 94) (nI i) Ps k * _
                            rw [if_pos hl, if_pos hb, ← hod]
                  exact ki 8 0 1 _ (by omega) rfl
            exact ko 256 0 0 X1 gl _ _ _ _ (by omega) (zXg_rf X1) (fun _ _ => rfl) rfl
          · refine zA_lload_2 dX11_expected_51 ?_
            exact zB_lret rfl dX11_expected_52 (Or.inl ⟨g0, by rw [h3], by rcases (show Ps = 0 ∨ Ps = 1 ∨ Ps = 2 by omega) with rfl | rfl | rfl <;> decide +kernel, zXh_thr _ _, fun _ _ => rfl, rfl⟩)
        · exact absurd h (by omega)
      | succ m ih =>
        intro k l5 l6 l7 l8 l9 l10 hk
        refine zA_iload_4 dX11_expected_23 ?_
        refine zA_iconst (nI 4) dX11_expected_25 ic_4 ?_
        refine zA_aload_0 dX11_expected_26 ?_
        refine zA_getI (v := (nI Ps)) sh_87 fX11_183 dX11_expected_27 rfl hPs ?_
        refine zA_imulN dX11_expected_30 ?_
        refine zA_icmp_geN 46 dX11_expected_31 (by decide) (by omega) (by omega) (fun h => ?_) (fun h => ?_)
        · exact absurd h (by omega)
        · refine zA_lload_2 dX11_expected_34 ?_
          refine zA_ldc2 kX11_422 dX11_expected_35 ?_
          refine zA_lmul dX11_expected_38 ?_
          refine zA_lstore_2 dX11_expected_39 rfl ?_
          refine zA_iinc_4 (v := nI (k + 1)) dX11_expected_40 (zn_inc _) rfl ?_
          refine zA_goto 23 dX11_expected_43 (by decide) ?_
          exact ih (k + 1) _ _ _ _ _ _ (by omega)
    exact kall (4 * Ps) 0 _ _ _ _ _ _ (by omega)
  · refine zA_ldc2 kX11_420 dX11_expected_14 ?_
    exact zB_lret rfl dX11_expected_17 (Or.inr (Or.inr ⟨g0, rfl, zXh_thr _ _, fun _ _ => rfl, rfl⟩))
