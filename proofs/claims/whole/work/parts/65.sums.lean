/-! the reference's sums -/
abbrev zBd (a : Int64) : Prop := -1000000000000 ≤ a.toInt ∧ a.toInt ≤ 1000000000000
abbrev fBad (J : Int64) : Prop := 0 < lg_cmp J 1000000000000 ∨ lg_cmp J (-1000000000000) < 0
theorem fBad_iff (J : Int64) : fBad J ↔ ¬ zBd J := by
  unfold fBad zBd
  rw [lg_cmp_gt, lg_cmp_lt, Int64.lt_iff_toInt_lt, Int64.lt_iff_toInt_lt]
  have e1 : (1000000000000 : Int64).toInt = 1000000000000 := by decide +kernel
  have e2 : (-1000000000000 : Int64).toInt = -1000000000000 := by decide +kernel
  rw [e1, e2]
  omega
theorem zbL_bd (p : Prop) [Decidable p] : ¬ fBad (zbL p) := by
  by_cases h : p
  · rw [zbL_t h]; decide +kernel
  · rw [zbL_f h]; decide +kernel
theorem zabs_toInt {a : Int64} (h : a.toInt ≠ -2 ^ 63) : (zabs a).toInt = (a.toInt.natAbs : Int) := by
  unfold zabs
  by_cases q : 0 ≤ lg_cmp a 0
  · rw [if_pos q]
    have := Kit.i64_nonneg.mp ((lg_cmp_ge a 0).mp q)
    omega
  · rw [if_neg q, Kit.i64_neg h]
    have : ¬ 0 ≤ a.toInt := fun z => q ((lg_cmp_ge a 0).mpr (Kit.i64_nonneg.mpr z))
    omega
theorem zabs_bad {a : Int64} (h : a.toInt ≠ -2 ^ 63) : 0 < lg_cmp (zabs a) 1000000000000 ↔ fBad a := by
  rw [fBad_iff, lg_cmp_gt, Int64.lt_iff_toInt_lt, zabs_toInt h]
  have e1 : (1000000000000 : Int64).toInt = 1000000000000 := by decide +kernel
  rw [e1]
  omega
theorem zquo_toInt {a : Int64} (h : zBd a) : (1000000000000 / zabs a : Int64).toInt = ((1000000000000 / a.toInt.natAbs : Nat) : Int) := by
  have e1 : (1000000000000 : Int64).toInt = 1000000000000 := by decide +kernel
  rw [Kit.i64_div (by rw [e1]; omega), e1, zabs_toInt (by omega)]
  rw [Int.tdiv_eq_ediv_of_nonneg (by decide), Int.natCast_ediv]
  rfl
theorem fProd_ok {a b : Int64} (ha : zBd a) (hb : zBd b) : (fBad (fProd a b) ↔ (¬ lg_cmp a 0 = 0 ∧ 0 < lg_cmp (zabs b) (1000000000000 / zabs a))) ∧ (¬ fBad (fProd a b) → fProd a b = a * b) := by
  have za := zabs_toInt (a := a) (by omega)
  have zb := zabs_toInt (a := b) (by omega)
  have qa := zquo_toInt ha
  have qb := zquo_toInt hb
  have e0 : (0 : Int64).toInt = 0 := by decide +kernel
  have c1 : lg_cmp (zabs b) 0 = 0 ↔ b.toInt.natAbs = 0 := by
    rw [lg_cmp_eq, ← Int64.toInt_inj, zb, e0]
    omega
  have c2 : lg_cmp a 0 = 0 ↔ a.toInt.natAbs = 0 := by
    rw [lg_cmp_eq, ← Int64.toInt_inj, e0]
    omega
  have c3 : lg_cmp (zabs a) (1000000000000 / zabs b) ≤ 0 ↔ a.toInt.natAbs ≤ 1000000000000 / b.toInt.natAbs := by
    rw [lg_cmp_le, Int64.le_iff_toInt_le, za, qb]
    exact Int.ofNat_le
  have c4 : 0 < lg_cmp (zabs b) (1000000000000 / zabs a) ↔ 1000000000000 / a.toInt.natAbs < b.toInt.natAbs := by
    rw [lg_cmp_gt, Int64.lt_iff_toInt_lt, zb, qa]
    exact Int.ofNat_lt
  have hERR : fBad zERR := by decide +kernel +kernel
  have hm : a.toInt.natAbs * b.toInt.natAbs ≤ 1000000000000 → (a * b).toInt = a.toInt * b.toInt ∧ ¬ fBad (a * b) := fun hle => by
    have hn : (a.toInt * b.toInt).natAbs ≤ 1000000000000 := by rw [Int.natAbs_mul]; exact hle
    have h1 := Kit.i64_mul (x := a) (y := b) (by omega) (by omega)
    refine ⟨h1, ?_⟩
    rw [fBad_iff]
    unfold zBd
    rw [h1]
    omega
  unfold fProd
  by_cases k1 : b.toInt.natAbs = 0
  · rw [if_pos (c1.mpr k1)]
    have b0 : b = 0 := Int64.toInt_inj.mp (by rw [e0]; omega)
    refine ⟨⟨fun q => absurd q (by decide +kernel), fun q => ?_⟩, fun _ => by rw [b0, Int64.mul_zero]⟩
    have h9 := c4.mp q.2
    rw [k1] at h9
    exact absurd h9 (Nat.not_lt_zero _)
  · rw [if_neg (fun q => k1 (c1.mp q))]
    by_cases k2 : a.toInt.natAbs ≤ 1000000000000 / b.toInt.natAbs
    · rw [if_pos (c3.mpr k2)]
      have h2 : a.toInt.natAbs * b.toInt.natAbs ≤ 1000000000000 := (Nat.le_div_iff_mul_le (by omega)).mp k2
      refine ⟨⟨fun q => absurd q (hm h2).2, fun q => ?_⟩, fun _ => rfl⟩
      have h3 := c4.mp q.2
      have h4 : ¬ a.toInt.natAbs = 0 := fun z => q.1 (c2.mpr z)
      have h5 := (Nat.div_lt_iff_lt_mul (by omega)).mp h3
      rw [Nat.mul_comm] at h5
      omega
    · rw [if_neg (fun q => k2 (c3.mp q))]
      have h2 : 1000000000000 < a.toInt.natAbs * b.toInt.natAbs := (Nat.div_lt_iff_lt_mul (by omega)).mp (by omega)
      refine ⟨⟨fun _ => ⟨fun z => ?_, c4.mpr ?_⟩, fun _ => hERR⟩, fun q => absurd hERR q⟩
      · rw [c2.mp z, Nat.zero_mul] at h2
        omega
      · by_cases k3 : a.toInt.natAbs = 0
        · rw [k3, Nat.zero_mul] at h2
          omega
        · rw [Nat.mul_comm] at h2
          exact (Nat.div_lt_iff_lt_mul (by omega)).mpr h2
theorem zabs_ne0 {a : Int64} (ha : zBd a) (h : ¬ lg_cmp a 0 = 0) : ¬ zabs a = 0 := fun q => by
  have z1 := zabs_toInt (a := a) (by omega)
  have z0 : (0 : Int64).toInt = 0 := by decide +kernel
  rw [q, z0] at z1
  exact h ((lg_cmp_eq a 0).mpr (Int64.toInt_inj.mp (by rw [z0]; omega)))
theorem fQuo_ok {a b : Int64} (ha : zBd a) : ¬ fBad (a / b) := by
  rw [fBad_iff]
  have h := Kit.i64_div (x := a) (y := b) (by omega)
  have hn : (a.toInt.tdiv b.toInt).natAbs ≤ a.toInt.natAbs := by rw [Int.natAbs_tdiv]; exact Nat.div_le_self _ _
  unfold zBd
  rw [h]
  omega
theorem fRem_ok {a b : Int64} (ha : zBd a) : ¬ fBad (a - a / b * b) := by
  rw [fBad_iff]
  have h := Kit.i64_rem a b
  have hn : (a.toInt.tmod b.toInt).natAbs ≤ a.toInt.natAbs := by rw [Int.natAbs_tmod]; exact Nat.mod_le _ _
  unfold zBd
  rw [h]
  omega
theorem zs_same {gi : zm_I} {q j : Nat} {v : Int32} (h : gi q j = v) : zs gi q j v = gi := funext fun a => funext fun i => by
  rw [zs_at]
  split
  · next c => rw [c.1, c.2, h]
  · rfl
theorem rMk {J z : Int64} {gi : zm_I} (hn : ¬ fBad J) (he : gi 87 60 = nI 0) (hz : z = J) : z = (if fBad J then 0 else J) ∧ gi = zs gi 87 60 (zb (fBad J)) := by
  rw [if_neg hn, zb_f hn]
  exact ⟨hz, (zs_same he).symm⟩
theorem rMk1 {J : Int64} {gi : zm_I} (hn : fBad J) : (0 : Int64) = (if fBad J then 0 else J) ∧ zs gi 87 60 (nI 1) = zs gi 87 60 (zb (fBad J)) := by
  rw [if_pos hn, zb_t hn]
  exact ⟨rfl, rfl⟩
theorem rMk0 {J z : Int64} {gi : zm_I} (hn : ¬ fBad J) (hz : z = J) : z = (if fBad J then 0 else J) ∧ zs gi 87 60 (nI 0) = zs gi 87 60 (zb (fBad J)) := by
  rw [if_neg hn, zb_f hn]
  exact ⟨hz, rfl⟩
