theorem zmm {V m : Int64} : zmaxL 0 (zminL V m) = if 0 < lg_cmp V m then (if lg_cmp 0 m < 0 then m else 0) else (if lg_cmp 0 V < 0 then V else 0) := by
  unfold zmaxL zminL
  by_cases h : 0 < lg_cmp V m
  · rw [if_pos h, if_pos h]
  · rw [if_neg h, if_neg h]
theorem rCut_neg {V : Int64} {m : Nat} (hm : m < 2 ^ 31) (h : lg_cmp (if V = zERR then 0 else V) 0 < 0) : fCut V (nI m) = nI 0 := by
  by_cases e : V = zERR
  · rw [if_pos e] at h
    exact absurd h (by decide +kernel)
  · rw [if_neg e] at h
    have h1 := (lg_cmp_lt V 0).mp h
    have hmm : (nI m).toInt64.toInt = m := by rw [Int32.toInt_toInt64, nI_toInt hm]
    have h0 : (0 : Int64).toInt = 0 := by decide +kernel
    have h2 := Int64.lt_iff_toInt_lt.mp h1
    unfold fCut
    rw [zmm, if_neg (fun q => by have := Int64.lt_iff_toInt_lt.mp ((lg_cmp_gt _ _).mp q); omega), if_neg (fun q => by have := Int64.lt_iff_toInt_lt.mp ((lg_cmp_lt _ _).mp q); omega)]
    decide
theorem rCut_big {V : Int64} {m : Nat} (hm : m < 2 ^ 31) (h : 0 < lg_cmp (if V = zERR then 0 else V) (nI m).toInt64) : fCut V (nI m) = nI m := by
  have hmm : (nI m).toInt64.toInt = m := by rw [Int32.toInt_toInt64, nI_toInt hm]
  have h0 : (0 : Int64).toInt = 0 := by decide +kernel
  have h2 := Int64.lt_iff_toInt_lt.mp ((lg_cmp_gt _ _).mp h)
  by_cases e : V = zERR
  · rw [if_pos e] at h2
    omega
  · rw [if_neg e] at h h2
    unfold fCut
    rw [zmm, if_pos h]
    by_cases q : lg_cmp 0 (nI m).toInt64 < 0
    · rw [if_pos q]
      exact Int32.toInt_inj.mp (by rw [Kit.i32_of_i64 (by omega) (by omega), hmm, nI_toInt hm])
    · rw [if_neg q]
      have : ¬ (0 : Int64) < (nI m).toInt64 := fun z => q ((lg_cmp_lt _ _).mpr z)
      rw [Int64.lt_iff_toInt_lt] at this
      have e0 : m = 0 := by omega
      rw [e0]
      decide
theorem rCut_mid {V : Int64} {m : Nat} (hm : m < 2 ^ 31) (h1 : 0 ≤ lg_cmp (if V = zERR then 0 else V) 0) (h : lg_cmp (if V = zERR then 0 else V) (nI m).toInt64 ≤ 0) : fCut V (nI m) = (if V = zERR then 0 else V).toInt32 := by
  have hmm : (nI m).toInt64.toInt = m := by rw [Int32.toInt_toInt64, nI_toInt hm]
  have h0 : (0 : Int64).toInt = 0 := by decide +kernel
  unfold fCut
  by_cases e : V = zERR
  · have hz : zERR.toInt = -9223372036854775808 := by decide +kernel
    rw [if_pos e, zmm, e, if_neg (fun q => by have := Int64.lt_iff_toInt_lt.mp ((lg_cmp_gt _ _).mp q); omega), if_neg (fun q => by have := Int64.lt_iff_toInt_lt.mp ((lg_cmp_lt _ _).mp q); omega)]
  · rw [if_neg e] at h1 h ⊢
    have h2 := Int64.le_iff_toInt_le.mp ((lg_cmp_ge _ _).mp h1)
    have h3 := Int64.le_iff_toInt_le.mp ((lg_cmp_le _ _).mp h)
    rw [zmm, if_neg (fun q => by have := Int64.lt_iff_toInt_lt.mp ((lg_cmp_gt _ _).mp q); omega)]
    by_cases q : lg_cmp 0 V < 0
    · rw [if_pos q]
    · rw [if_neg q]
      have : ¬ (0 : Int64) < V := fun z => q ((lg_cmp_lt _ _).mpr z)
      rw [Int64.lt_iff_toInt_lt] at this
      have e0 : V = 0 := Int64.toInt_inj.mp (by omega)
      rw [e0]
theorem ct_rWithin (g : zm_G) (gi : zm_I) (gl : zm_J) (r : Nat) (C : zm_I) (cl : zm_J) {l : Nat} (hl : l < 5) (hA : rAt gi) (hF : ∀ k, k < 11 → (k = 10 → 2 ≤ l) → cl 74 k = (rNm gi k).toInt64) (hL : zLn C gi l) {m : Nat} (hm : m < 2 ^ 31) {d : Int32} (hd : fCut (zm_wl.getD l 0).toInt64 (nI m) = d)  : zC_i g yX11_within mX11_within 4 [.ref 87, .int (nI l), .int (nI m), .int d] zSH gi gl (zRT r) (fun z gi' gl' gr' => z = fCut (fWor C cl l).1 (nI m) ∧ (∃ v, gi' = zs gi 87 60 v) ∧ (∀ q, q ≠ 121 → gl' q = gl q) ∧ gr' = zRT r) := by
  refine zC_i_of [some (.ref 87), some (.int (nI l)), some (.int (nI m)), some (.int d), none, none] (by decide) rfl rfl (Nat.le_of_ble_eq_true rfl) (fun x => ?_)
  rcases hL with ⟨h1, h2⟩ | ⟨s0, m0, f0, k0, k1, k2, k3, k4, k5, k6, k7, k8⟩
  · refine zA_aload_0 dX11_within_0 ?_
    refine zA_getR sh_87 fX11_78 dX11_within_1 rfl (rt_87_38 _) ?_
    refine zA_iconst (nI 2) dX11_within_4 ic_2 ?_
    refine zA_iload_1 dX11_within_5 ?_
    refine zA_iaddN dX11_within_6 ?_
    refine zA_zald (v := (nI 0)) (2 + l) sh_109 dX11_within_7 rfl (by omega) (by decide) h2 ?_
    refine zA_if_ne 13 dX11_within_8 (by decide) (fun hh => absurd hh (by decide)) (fun _ => ?_)
    refine zA_iload_3 dX11_within_11 ?_
    exact zB_iret rfl dX11_within_12 (⟨by unfold fWor; rw [if_pos h1]; exact hd.symm, ⟨_, (zs_same rfl).symm⟩, fun _ _ => rfl, rfl⟩)
  · refine zA_aload_0 dX11_within_0 ?_
    refine zA_getR sh_87 fX11_78 dX11_within_1 rfl (rt_87_38 _) ?_
    refine zA_iconst (nI 2) dX11_within_4 ic_2 ?_
    refine zA_iload_1 dX11_within_5 ?_
    refine zA_iaddN dX11_within_6 ?_
    refine zA_zald (v := (nI 1)) (2 + l) sh_109 dX11_within_7 rfl (by omega) (by decide) k5 ?_
    refine zA_if_ne 13 dX11_within_8 (by decide) (fun _ => ?_) (fun hh => absurd hh (by decide))
    refine zA_aload_0 dX11_within_13 ?_
    refine zA_iload_1 dX11_within_14 ?_
    refine zA_cVl (ct_rValue g gi gl r C cl hl hA hF k0 k1 k2 k3 k4 k6 k7 k8) calX11_valueOf stX11_valueOf lX11_371 dX11_within_15 (by decide) (by simp [Value.category]) rfl (Nat.le_refl _) (Nat.le_refl _) sh_87 rfl (fun zz gi' gl' gr' ⟨hz, e1, e2, e3⟩ => ?_)
    rw [hz, e1, e3]
    clear hz e1 e3
    refine zA_lstore_4 dX11_within_18 rfl ?_
    refine zA_lload_4 dX11_within_20 ?_
    refine zA_lconst 0 dX11_within_22 (by decide) ?_
    refine zA_lcmp dX11_within_23 ?_
    refine zA_if_ge 31 dX11_within_24 (by decide) (fun q1 => ?_) (fun q1 => ?_)
    · refine zA_lload_4 dX11_within_31 ?_
      refine zA_iload_2 dX11_within_33 ?_
      refine zA_i2l dX11_within_34 ?_
      refine zA_lcmp dX11_within_35 ?_
      refine zA_if_le 43 dX11_within_36 (by decide) (fun q2 => ?_) (fun q2 => ?_)
      · refine zA_lload_4 dX11_within_43 ?_
        refine zA_l2i dX11_within_45 ?_
        exact zB_iret rfl dX11_within_46 (⟨(rCut_mid hm q1 q2).symm, ⟨_, rfl⟩, e2, rfl⟩)
      · refine zA_iload_2 dX11_within_39 ?_
        refine zA_goto 46 dX11_within_40 (by decide) ?_
        exact zB_iret rfl dX11_within_46 (⟨(rCut_big hm (Int32.not_le.mp q2)).symm, ⟨_, rfl⟩, e2, rfl⟩)
    · refine zA_iconst (nI 0) dX11_within_27 ic_0 ?_
      refine zA_goto 46 dX11_within_28 (by decide) ?_
      exact zB_iret rfl dX11_within_46 (⟨(rCut_neg hm (Int32.not_le.mp q1)).symm, ⟨_, rfl⟩, e2, rfl⟩)
