/-- an entry's first steps in the reference -/
def rPre (X : zm_I) (e v p n : Nat) (wn : Int32) : zm_I := (zs (zs (zs (zs (zs (zs (zs (zs (zs (zs (zs (zs X 130 (7 * e + 0) (nI 0)) 130 (7 * e + 1) (nI 0)) 130 (7 * e + 2) (nI 0)) 130 (7 * e + 3) (nI 0)) 130 (7 * e + 4) (nI 0)) 130 (7 * e + 5) (nI 0)) 130 (7 * e + 6) (nI 0)) 87 61 (nI v)) 87 62 (nI p)) 87 63 (nI n)) 87 64 wn) 87 65 (nI 0))
def zOut (W Pn w e : Nat) (C' X X' : zm_I) : Prop :=
  zDR W Pn C' X' ∧ zNR C' X' ∧ zTR w C' X' ∧ zXg X X' ∧ (∀ k, k < 7 → X' 130 (7 * e + k) = C' (59 + k) e) ∧ (∀ j, (j < 7 * e ∨ 7 * e + 7 ≤ j) → X' 130 j = X 130 j) ∧
  (∀ w', w' ≠ w → X' 124 w' = X 124 w' ∧ X' 125 w' = X 125 w') ∧ X' 131 = X 131 ∧ X' 87 66 = X 87 66
theorem rPre_q (X : zm_I) (e v p n : Nat) (wn : Int32) {a : Nat} (h1 : a ≠ 130) (h2 : a ≠ 87) : rPre X e v p n wn a = X a := by
  unfold rPre
  rw [zs_nq h2, zs_nq h2, zs_nq h2, zs_nq h2, zs_nq h2, zs_nq h1, zs_nq h1, zs_nq h1, zs_nq h1, zs_nq h1, zs_nq h1, zs_nq h1]
theorem rPre_87 (X : zm_I) (e v p n : Nat) (wn : Int32) {j : Nat} (h : j < 61 ∨ 65 < j) : rPre X e v p n wn 87 j = X 87 j := by
  unfold rPre
  rw [zs_nj (by omega), zs_nj (by omega), zs_nj (by omega), zs_nj (by omega), zs_nj (by omega), zs_nq (by decide), zs_nq (by decide), zs_nq (by decide), zs_nq (by decide), zs_nq (by decide), zs_nq (by decide), zs_nq (by decide)]
theorem rPre_at (X : zm_I) (e v p n : Nat) (wn : Int32) : rPre X e v p n wn 87 61 = nI v ∧ rPre X e v p n wn 87 62 = nI p ∧ rPre X e v p n wn 87 63 = nI n ∧ rPre X e v p n wn 87 64 = wn ∧ rPre X e v p n wn 87 65 = nI 0 := ⟨rfl, rfl, rfl, rfl, rfl⟩
theorem rPre_130 (X : zm_I) (e v p n : Nat) (wn : Int32) : (∀ k, k < 7 → rPre X e v p n wn 130 (7 * e + k) = nI 0) ∧ ∀ j, (j < 7 * e ∨ 7 * e + 7 ≤ j) → rPre X e v p n wn 130 j = X 130 j := by
  unfold rPre
  constructor
  · intro k hk
    rcases (show k = 0 ∨ k = 1 ∨ k = 2 ∨ k = 3 ∨ k = 4 ∨ k = 5 ∨ k = 6 by omega) with rfl | rfl | rfl | rfl | rfl | rfl | rfl <;> simp [zs_at]
  · intro j hj
    rw [zs_nq (by decide), zs_nq (by decide), zs_nq (by decide), zs_nq (by decide), zs_nq (by decide), zs_nj (by omega), zs_nj (by omega), zs_nj (by omega), zs_nj (by omega), zs_nj (by omega), zs_nj (by omega), zs_nj (by omega)]
theorem rPre_xg (X : zm_I) (e v p n : Nat) (wn : Int32) : zXg X (rPre X e v p n wn) := by
  unfold rPre
  iterate 12 refine zXg_zs ?_ (by omega)
  exact zXg_rf X
theorem fForget_at (C : zm_I) (e : Nat) {k : Nat} (hk : k < 7) : fForget C e (59 + k) e = nI 0 := by
  unfold fForget
  rcases (show k = 0 ∨ k = 1 ∨ k = 2 ∨ k = 3 ∨ k = 4 ∨ k = 5 ∨ k = 6 by omega) with rfl | rfl | rfl | rfl | rfl | rfl | rfl <;> simp [zs_at]
/-- the relations are the same when an entry begins -/
theorem zPre_ok {W Pn w e v p n : Nat} {C X : zm_I} {wn : Int32} (hD : zDR W Pn C X) (hN : zNR C X) (hT : zTR w C X) : zDR W Pn (fForget C e) (rPre X e v p n wn) ∧ zNR (fForget C e) (rPre X e v p n wn) ∧ zTR w (fForget C e) (rPre X e v p n wn) := by
  have hc : ∀ a, ¬ (59 ≤ a ∧ a ≤ 65) → fForget C e a = C a := fun a h => fForget_row C e h
  unfold zDR zNR zTR
  rw [hc 67 (by omega), hc 69 (by omega), hc 70 (by omega), hc 72 (by omega), hc 71 (by omega), hc 73 (by omega), hc 66 (by omega), hc 57 (by omega), rPre_q _ _ _ _ _ _ (show 122 ≠ 130 by decide) (by decide), rPre_q _ _ _ _ _ _ (show 123 ≠ 130 by decide) (by decide), rPre_q _ _ _ _ _ _ (show 127 ≠ 130 by decide) (by decide), rPre_q _ _ _ _ _ _ (show 128 ≠ 130 by decide) (by decide), rPre_q _ _ _ _ _ _ (show 132 ≠ 130 by decide) (by decide), rPre_q _ _ _ _ _ _ (show 129 ≠ 130 by decide) (by decide), rPre_q _ _ _ _ _ _ (show 126 ≠ 130 by decide) (by decide), rPre_q _ _ _ _ _ _ (show 124 ≠ 130 by decide) (by decide), rPre_q _ _ _ _ _ _ (show 125 ≠ 130 by decide) (by decide), rPre_87 _ _ _ _ _ _ (show 79 < 61 ∨ 65 < 79 by decide), rPre_87 _ _ _ _ _ _ (show 78 < 61 ∨ 65 < 78 by decide), rPre_87 _ _ _ _ _ _ (show 80 < 61 ∨ 65 < 80 by decide), rPre_87 _ _ _ _ _ _ (show 82 < 61 ∨ 65 < 82 by decide), rPre_87 _ _ _ _ _ _ (show 81 < 61 ∨ 65 < 81 by decide)]
  exact ⟨hD, hN, hT⟩
/-- passed over -/
theorem zOut_no {W Pn w e v p n : Nat} {C X : zm_I} {wn ve c : Int32} (hD : zDR W Pn C X) (hN : zNR C X) (hT : zTR w C X) : zOut W Pn w e (zs (fForget C e) 59 e c) X (zs (zs (rPre X e v p n wn) 87 60 ve) 130 (7 * e) c) := by
  obtain ⟨⟨p1, p2, p3, p4, p5, p6, p7, p8⟩, pN, p9, p10, p11⟩ := zPre_ok (e := e) (v := v) (p := p) (n := n) (wn := wn) hD hN hT
  have x130 := rPre_130 X e v p n wn
  have xg := rPre_xg X e v p n wn
  have hc : ∀ k, k < 7 → fForget C e (59 + k) e = nI 0 := fun k hk => fForget_at C e hk
  have x131 : rPre X e v p n wn 131 = X 131 := rPre_q _ _ _ _ _ _ (by decide) (by decide)
  have x124 : rPre X e v p n wn 124 = X 124 := rPre_q _ _ _ _ _ _ (by decide) (by decide)
  have x125 : rPre X e v p n wn 125 = X 125 := rPre_q _ _ _ _ _ _ (by decide) (by decide)
  have x66 : rPre X e v p n wn 87 66 = X 87 66 := rPre_87 _ _ _ _ _ _ (by decide)
  generalize rPre X e v p n wn = Y at *
  generalize fForget C e = F at *
  refine ⟨⟨p1, p2, p3, p4, p5, p6, p7, p8⟩, pN, ⟨p9, p10, p11⟩, zXg_zs (zXg_zs xg (by omega)) (by omega), fun k hk => ?_, fun j hj => ?_, fun w' hw' => ⟨?_, ?_⟩, ?_, ?_⟩
  · by_cases k0 : k = 0
    · subst k0
      rw [zs_at, if_pos ⟨rfl, by omega⟩]
      exact (zs_eq F 59 e c).symm
    · rw [zs_nj (by omega), zs_nq (by decide), zs_nq (by omega), x130.1 k hk, hc k hk]
  · rw [zs_nj (by omega), zs_nq (by decide)]
    exact x130.2 j hj
  · rw [zs_nq (by decide), zs_nq (by decide), x124]
  · rw [zs_nq (by decide), zs_nq (by decide), x125]
  · rw [zs_nq (by decide), zs_nq (by decide), x131]
  · rw [zs_nq (by decide), zs_nj (by decide), x66]
def cShow (gi : zm_I) (i v p : Nat) (h tk re pa eg : Int32) : zm_I :=
  zs (zs (zs (zs (zs (zs (zs (zs (zs (zs (zs (zs (zs (zs gi 60 i h) 61 i tk) 62 i re) 63 i pa) 64 i eg) 66 0 (gi 66 0 + h)) 66 1 (gi 66 1 + (tk - re - pa))) 66 2 (gi 66 2 + nI 1)) 66 4 (gi 66 4 + eg)) 57 18 (gi 57 18 + gi (23 + p) 2)) 57 19 (gi 57 19 + nI 1)) 57 17 (gi 57 17 ||| (nI 1 <<< (nI v &&& 31)))) 72 p (gi 72 p + nI 1)) 73 (p * 8 + v) (gi 73 (p * 8 + v) + h)
def rShow (X : zm_I) (e w v p k : Nat) (wy pm h tk re pa eg v1 v2 v3 v4 : Int32) : zm_I := (zs (zs (zs (zs (zs (zs (zs (zs (zs (zs (zs (zs (zs (zs (zs (zs (zs (zs (zs (zs (zs (zs X 122 w (nI v)) 123 w (X 123 w + wy)) 124 w (X 124 w + (wy + pm))) 125 w (nI (k + 1))) 126 v (nI 1)) 129 (8 * p + v) (X 129 (8 * p + v) + h)) 128 p (X 128 p + nI 1)) 87 60 v1) 87 65 h) 87 60 v2) 87 60 v3) 87 60 v4) 130 (7 * e + 1) h) 130 (7 * e + 2) tk) 130 (7 * e + 3) re) 130 (7 * e + 4) pa) 130 (7 * e + 5) eg) 130 (7 * e + 6) wy) 87 79 (X 87 79 + h)) 87 80 (X 87 80 + nI 1)) 87 82 (X 87 82 + eg)) 87 78 (X 87 78 + (tk - re - pa)))

def bt (x : Int32) (i : Nat) : Bool := x.toBitVec.getLsbD i
theorem b_ext {x y : Int32} (h : ∀ i, i < 32 → bt x i = bt y i) : x = y := Int32.toBitVec_inj.mp (BitVec.eq_of_getLsbD_eq (fun i hi => h i hi))
theorem b_or (x y : Int32) (i : Nat) : bt (x ||| y) i = (bt x i || bt y i) := by unfold bt; rw [Int32.toBitVec_or, BitVec.getLsbD_or]
theorem b_and (x y : Int32) (i : Nat) : bt (x &&& y) i = (bt x i && bt y i) := by unfold bt; rw [Int32.toBitVec_and, BitVec.getLsbD_and]
theorem b_xor (x y : Int32) (i : Nat) : bt (x ^^^ y) i = (bt x i ^^ bt y i) := by unfold bt; rw [Int32.toBitVec_xor, BitVec.getLsbD_xor]
theorem b_big {x : Int32} {i : Nat} (h : 32 ≤ i) : bt x i = false := BitVec.getLsbD_of_ge _ _ h
theorem b_255 (i : Nat) : bt 255 i = decide (i < 8) := by
  rcases Nat.lt_or_ge i 32 with h | h
  · exact (by decide +kernel : ∀ i, i < 32 → bt 255 i = decide (i < 8)) i h
  · rw [b_big h, decide_eq_false (by omega)]
theorem b_65535 (i : Nat) : bt 65535 i = decide (i < 16) := by
  rcases Nat.lt_or_ge i 32 with h | h
  · exact (by decide +kernel : ∀ i, i < 32 → bt 65535 i = decide (i < 16)) i h
  · rw [b_big h, decide_eq_false (by omega)]
theorem b_m1 : ∀ i, i < 32 → bt (-1) i = true := by decide +kernel
theorem b_0 (i : Nat) : bt 0 i = false := BitVec.getLsbD_zero
theorem s_l : ∀ n, n < 32 → ((nI n &&& 31).toBitVec.smod 32).toNat = n := by decide +kernel
theorem s_u : ∀ n, n < 32 → (((nI n).toUInt32 &&& Int32.toUInt32 31).toBitVec % 32).toNat = n := by decide +kernel
theorem b_shl (n : Nat) (hn : n < 32) (x : Int32) {i : Nat} (hi : i < 32) : bt (x <<< (nI n &&& 31)) i = (decide (n ≤ i) && bt x (i - n)) := by
  unfold bt
  rw [Int32.toBitVec_shiftLeft]
  show (x.toBitVec <<< ((nI n &&& 31).toBitVec.smod 32).toNat).getLsbD i = _
  rw [s_l n hn, BitVec.getLsbD_shiftLeft]
  rcases Nat.lt_or_ge i n with h | h
  · simp [h, Nat.not_le.mpr h]
  · simp [hi, h, Nat.not_lt.mpr h]
theorem b_ushr (n : Nat) (hn : n < 32) (x : Int32) (i : Nat) : bt ((x.toUInt32 >>> ((nI n).toUInt32 &&& Int32.toUInt32 31)).toInt32) i = bt x (n + i) := by
  show (x.toUInt32 >>> ((nI n).toUInt32 &&& Int32.toUInt32 31)).toBitVec.getLsbD i = x.toUInt32.toBitVec.getLsbD (n + i)
  rw [UInt32.toBitVec_shiftRight]
  show (x.toUInt32.toBitVec >>> (((nI n).toUInt32 &&& Int32.toUInt32 31).toBitVec % 32).toNat).getLsbD i = _
  rw [s_u n hn, BitVec.getLsbD_ushiftRight]
theorem b_sshr (n : Nat) (hn : n < 32) (x : Int32) {i : Nat} (hi : i < 32) : bt (x >>> (nI n &&& 31)) i = if n + i < 32 then bt x (n + i) else bt x 31 := by
  unfold bt
  rw [Int32.toBitVec_shiftRight]
  show (x.toBitVec.sshiftRight ((nI n &&& 31).toBitVec.smod 32).toNat).getLsbD i = _
  rw [s_l n hn, BitVec.getLsbD_sshiftRight, BitVec.msb_eq_getLsbD_last]
  simp [hi]

theorem b_one : ∀ i, i < 32 → bt (nI 1) i = decide (i = 0) := by decide +kernel
theorem zbit_bt {x : Int32} {n : Nat} (hn : n < 32) : zbit x n ↔ bt x n = true := by
  have e0 : bt (x >>> (nI n &&& 31)) 0 = bt x n := by rw [b_sshr n hn x (by decide), Nat.add_zero, if_pos hn]
  constructor
  · intro h
    have h2 : bt ((x >>> (nI n &&& 31)) &&& nI 1) 0 = bt (nI 1) 0 := congrArg (fun z => bt z 0) h
    rw [b_and, e0, b_one 0 (by decide)] at h2
    simpa using h2
  · intro h
    refine b_ext (fun i hi => ?_)
    rw [b_and, b_one i hi]
    by_cases i0 : i = 0
    · subst i0
      rw [e0, h]
      rfl
    · simp [i0]
theorem zb_shl {x : Int32} {a b : Nat} (ha : a < 8) (hb : b < 8) : zbit (x ||| (nI 1 <<< (nI a &&& 31))) b ↔ (b = a ∨ zbit x b) := by
  rw [zbit_bt (by omega), zbit_bt (by omega), b_or, b_shl a (by omega) _ (show b < 32 by omega)]
  by_cases h : a ≤ b
  · rw [b_one (b - a) (by omega)]
    simp only [h, decide_true, Bool.true_and, Bool.or_eq_true, decide_eq_true_eq]
    constructor
    · rintro (h1 | h1)
      · exact Or.inr h1
      · exact Or.inl (by omega)
    · rintro (h1 | h1)
      · exact Or.inr (by omega)
      · exact Or.inl h1
  · simp only [h, decide_false, Bool.false_and, Bool.or_false]
    constructor
    · exact Or.inr
    · rintro (h1 | h1)
      · omega
      · exact h1
theorem zbit_0 {n : Nat} (hn : n < 32) : ¬ zbit (nI 0) n := by
  rw [zbit_bt hn]
  have : bt (nI 0) n = false := b_0 n
  rw [this]
  decide
theorem rSh_122 {X : zm_I} {e w v p k : Nat} {wy pm h tk re pa eg v1 v2 v3 v4 : Int32} {j : Nat} : rShow X e w v p k wy pm h tk re pa eg v1 v2 v3 v4 122 j = if j = w then nI v else X 122 j := by
  unfold rShow
  simp [zs_at]
theorem rSh_123 {X : zm_I} {e w v p k : Nat} {wy pm h tk re pa eg v1 v2 v3 v4 : Int32} {j : Nat} : rShow X e w v p k wy pm h tk re pa eg v1 v2 v3 v4 123 j = if j = w then X 123 w + wy else X 123 j := by
  unfold rShow
  simp [zs_at]
theorem rSh_124 {X : zm_I} {e w v p k : Nat} {wy pm h tk re pa eg v1 v2 v3 v4 : Int32} {j : Nat} : rShow X e w v p k wy pm h tk re pa eg v1 v2 v3 v4 124 j = if j = w then X 124 w + (wy + pm) else X 124 j := by
  unfold rShow
  simp [zs_at]
theorem rSh_125 {X : zm_I} {e w v p k : Nat} {wy pm h tk re pa eg v1 v2 v3 v4 : Int32} {j : Nat} : rShow X e w v p k wy pm h tk re pa eg v1 v2 v3 v4 125 j = if j = w then nI (k + 1) else X 125 j := by
  unfold rShow
  simp [zs_at]
theorem rSh_126 {X : zm_I} {e w v p k : Nat} {wy pm h tk re pa eg v1 v2 v3 v4 : Int32} {j : Nat} : rShow X e w v p k wy pm h tk re pa eg v1 v2 v3 v4 126 j = if j = v then nI 1 else X 126 j := by
  unfold rShow
  simp [zs_at]
theorem rSh_128 {X : zm_I} {e w v p k : Nat} {wy pm h tk re pa eg v1 v2 v3 v4 : Int32} {j : Nat} : rShow X e w v p k wy pm h tk re pa eg v1 v2 v3 v4 128 j = if j = p then X 128 p + nI 1 else X 128 j := by
  unfold rShow
  simp [zs_at]
theorem rSh_129 {X : zm_I} {e w v p k : Nat} {wy pm h tk re pa eg v1 v2 v3 v4 : Int32} {j : Nat} : rShow X e w v p k wy pm h tk re pa eg v1 v2 v3 v4 129 j = if j = 8 * p + v then X 129 (8 * p + v) + h else X 129 j := by
  unfold rShow
  simp [zs_at]
theorem rSh_127 {X : zm_I} {e w v p k : Nat} {wy pm h tk re pa eg v1 v2 v3 v4 : Int32} {j : Nat} : rShow X e w v p k wy pm h tk re pa eg v1 v2 v3 v4 127 j = X 127 j := by
  unfold rShow
  simp [zs_at]
theorem rSh_132 {X : zm_I} {e w v p k : Nat} {wy pm h tk re pa eg v1 v2 v3 v4 : Int32} {j : Nat} : rShow X e w v p k wy pm h tk re pa eg v1 v2 v3 v4 132 j = X 132 j := by
  unfold rShow
  simp [zs_at]
theorem rSh_131 {X : zm_I} {e w v p k : Nat} {wy pm h tk re pa eg v1 v2 v3 v4 : Int32} {j : Nat} : rShow X e w v p k wy pm h tk re pa eg v1 v2 v3 v4 131 j = X 131 j := by
  unfold rShow
  simp [zs_at]
theorem rSh_87_79 {X : zm_I} {e w v p k : Nat} {wy pm h tk re pa eg v1 v2 v3 v4 : Int32}  : rShow X e w v p k wy pm h tk re pa eg v1 v2 v3 v4 87 79 = X 87 79 + h := by
  unfold rShow
  simp [zs_at]
theorem rSh_87_80 {X : zm_I} {e w v p k : Nat} {wy pm h tk re pa eg v1 v2 v3 v4 : Int32}  : rShow X e w v p k wy pm h tk re pa eg v1 v2 v3 v4 87 80 = X 87 80 + nI 1 := by
  unfold rShow
  simp [zs_at]
theorem rSh_87_82 {X : zm_I} {e w v p k : Nat} {wy pm h tk re pa eg v1 v2 v3 v4 : Int32}  : rShow X e w v p k wy pm h tk re pa eg v1 v2 v3 v4 87 82 = X 87 82 + eg := by
  unfold rShow
  simp [zs_at]
theorem rSh_87_78 {X : zm_I} {e w v p k : Nat} {wy pm h tk re pa eg v1 v2 v3 v4 : Int32}  : rShow X e w v p k wy pm h tk re pa eg v1 v2 v3 v4 87 78 = X 87 78 + (tk - re - pa) := by
  unfold rShow
  simp [zs_at]
theorem rSh_87_81 {X : zm_I} {e w v p k : Nat} {wy pm h tk re pa eg v1 v2 v3 v4 : Int32}  : rShow X e w v p k wy pm h tk re pa eg v1 v2 v3 v4 87 81 = X 87 81 := by
  unfold rShow
  simp [zs_at]
theorem rSh_87_66 {X : zm_I} {e w v p k : Nat} {wy pm h tk re pa eg v1 v2 v3 v4 : Int32}  : rShow X e w v p k wy pm h tk re pa eg v1 v2 v3 v4 87 66 = X 87 66 := by
  unfold rShow
  simp [zs_at]
theorem rSh_130_0 {X : zm_I} {e w v p k : Nat} {wy pm h tk re pa eg v1 v2 v3 v4 : Int32}  : rShow X e w v p k wy pm h tk re pa eg v1 v2 v3 v4 130 (7 * e) = X 130 (7 * e) := by
  unfold rShow
  simp [zs_at]
theorem rSh_130_1 {X : zm_I} {e w v p k : Nat} {wy pm h tk re pa eg v1 v2 v3 v4 : Int32}  : rShow X e w v p k wy pm h tk re pa eg v1 v2 v3 v4 130 (7 * e + 1) = h := by
  unfold rShow
  simp [zs_at]
theorem rSh_130_2 {X : zm_I} {e w v p k : Nat} {wy pm h tk re pa eg v1 v2 v3 v4 : Int32}  : rShow X e w v p k wy pm h tk re pa eg v1 v2 v3 v4 130 (7 * e + 2) = tk := by
  unfold rShow
  simp [zs_at]
theorem rSh_130_3 {X : zm_I} {e w v p k : Nat} {wy pm h tk re pa eg v1 v2 v3 v4 : Int32}  : rShow X e w v p k wy pm h tk re pa eg v1 v2 v3 v4 130 (7 * e + 3) = re := by
  unfold rShow
  simp [zs_at]
theorem rSh_130_4 {X : zm_I} {e w v p k : Nat} {wy pm h tk re pa eg v1 v2 v3 v4 : Int32}  : rShow X e w v p k wy pm h tk re pa eg v1 v2 v3 v4 130 (7 * e + 4) = pa := by
  unfold rShow
  simp [zs_at]
theorem rSh_130_5 {X : zm_I} {e w v p k : Nat} {wy pm h tk re pa eg v1 v2 v3 v4 : Int32}  : rShow X e w v p k wy pm h tk re pa eg v1 v2 v3 v4 130 (7 * e + 5) = eg := by
  unfold rShow
  simp [zs_at]
theorem rSh_130_6 {X : zm_I} {e w v p k : Nat} {wy pm h tk re pa eg v1 v2 v3 v4 : Int32}  : rShow X e w v p k wy pm h tk re pa eg v1 v2 v3 v4 130 (7 * e + 6) = wy := by
  unfold rShow
  simp [zs_at]
theorem rSh_130 {X : zm_I} {e w v p k : Nat} {wy pm h tk re pa eg v1 v2 v3 v4 : Int32} {j : Nat} (hj : j < 7 * e ∨ 7 * e + 7 ≤ j) : rShow X e w v p k wy pm h tk re pa eg v1 v2 v3 v4 130 j = X 130 j := by
  unfold rShow
  rw [zs_nq (by decide), zs_nq (by decide), zs_nq (by decide), zs_nq (by decide), zs_nj (by omega), zs_nj (by omega), zs_nj (by omega), zs_nj (by omega), zs_nj (by omega), zs_nj (by omega)]
  iterate 12 rw [zs_nq (by decide)]
theorem rSh_xg {X : zm_I} {e w v p k : Nat} {wy pm h tk re pa eg v1 v2 v3 v4 : Int32} : zXg X (rShow X e w v p k wy pm h tk re pa eg v1 v2 v3 v4) := by
  unfold rShow
  iterate 22 refine zXg_zs ?_ (by omega)
  exact zXg_rf X
theorem cSh_67 {C : zm_I} {e w v p s : Nat} {h tk re pa eg : Int32} {j : Nat} : cShow (fDrive C e w v s) e v p h tk re pa eg 67 j = if j = w then nI v else C 67 j := by
  unfold cShow fDrive
  simp [zs_at]
theorem cSh_69 {C : zm_I} {e w v p s : Nat} {h tk re pa eg : Int32} {j : Nat} : cShow (fDrive C e w v s) e v p h tk re pa eg 69 j = if j = w then C 69 w + fFew C (zi (C 67 w)) v s else C 69 j := by
  unfold cShow fDrive
  simp [zs_at]
theorem cSh_70 {C : zm_I} {e w v p s : Nat} {h tk re pa eg : Int32} {j : Nat} : cShow (fDrive C e w v s) e v p h tk re pa eg 70 j = C 70 j := by
  unfold cShow fDrive
  simp [zs_at]
theorem cSh_71 {C : zm_I} {e w v p s : Nat} {h tk re pa eg : Int32} {j : Nat} : cShow (fDrive C e w v s) e v p h tk re pa eg 71 j = C 71 j := by
  unfold cShow fDrive
  simp [zs_at]
theorem cSh_68 {C : zm_I} {e w v p s : Nat} {h tk re pa eg : Int32} {j : Nat} : cShow (fDrive C e w v s) e v p h tk re pa eg 68 j = C 68 j := by
  unfold cShow fDrive
  simp [zs_at]
theorem cSh_72 {C : zm_I} {e w v p s : Nat} {h tk re pa eg : Int32} {j : Nat} : cShow (fDrive C e w v s) e v p h tk re pa eg 72 j = if j = p then C 72 p + nI 1 else C 72 j := by
  unfold cShow fDrive
  simp [zs_at]
theorem cSh_73 {C : zm_I} {e w v p s : Nat} {h tk re pa eg : Int32} {j : Nat} : cShow (fDrive C e w v s) e v p h tk re pa eg 73 j = if j = p * 8 + v then C 73 (p * 8 + v) + h else C 73 j := by
  unfold cShow fDrive
  simp [zs_at]
theorem cSh_66_0 {C : zm_I} {e w v p s : Nat} {h tk re pa eg : Int32}  : cShow (fDrive C e w v s) e v p h tk re pa eg 66 0 = C 66 0 + h := by
  unfold cShow fDrive
  simp [zs_at]
theorem cSh_66_1 {C : zm_I} {e w v p s : Nat} {h tk re pa eg : Int32}  : cShow (fDrive C e w v s) e v p h tk re pa eg 66 1 = C 66 1 + (tk - re - pa) := by
  unfold cShow fDrive
  simp [zs_at]
theorem cSh_66_2 {C : zm_I} {e w v p s : Nat} {h tk re pa eg : Int32}  : cShow (fDrive C e w v s) e v p h tk re pa eg 66 2 = C 66 2 + nI 1 := by
  unfold cShow fDrive
  simp [zs_at]
theorem cSh_66_3 {C : zm_I} {e w v p s : Nat} {h tk re pa eg : Int32}  : cShow (fDrive C e w v s) e v p h tk re pa eg 66 3 = C 66 3 := by
  unfold cShow fDrive
  simp [zs_at]
theorem cSh_66_4 {C : zm_I} {e w v p s : Nat} {h tk re pa eg : Int32}  : cShow (fDrive C e w v s) e v p h tk re pa eg 66 4 = C 66 4 + eg := by
  unfold cShow fDrive
  simp [zs_at]
theorem cSh_57_17 {C : zm_I} {e w v p s : Nat} {h tk re pa eg : Int32}  : cShow (fDrive C e w v s) e v p h tk re pa eg 57 17 = C 57 17 ||| (nI 1 <<< (nI v &&& 31)) := by
  unfold cShow fDrive
  simp [zs_at]
theorem cSh_57_19 {C : zm_I} {e w v p s : Nat} {h tk re pa eg : Int32}  : cShow (fDrive C e w v s) e v p h tk re pa eg 57 19 = C 57 19 + nI 1 := by
  unfold cShow fDrive
  simp [zs_at]
theorem cSh_57_18 {C : zm_I} {e w v p s : Nat} {h tk re pa eg : Int32} (hp : p < 4) : cShow (fDrive C e w v s) e v p h tk re pa eg 57 18 = C 57 18 + fFew C (zi (C 67 w)) v s + C (23 + p) 2 := by
  have e1 : fDrive C e w v s 57 18 = C 57 18 + fFew C (zi (C 67 w)) v s := by unfold fDrive; simp [zs_at]
  have e2 : fDrive C e w v s (23 + p) = C (23 + p) := fDrive_ag C e w v s (23 + p) (by omega)
  unfold cShow
  rw [zs_nq (by decide), zs_nq (by decide), zs_nj (by decide), zs_nj (by decide), zs_eq, e1, e2]
theorem cSh_59 {C : zm_I} {e w v p s : Nat} {h tk re pa eg : Int32}  : cShow (fDrive C e w v s) e v p h tk re pa eg 59 e = C 59 e := by
  unfold cShow fDrive
  simp [zs_at]
theorem cSh_60 {C : zm_I} {e w v p s : Nat} {h tk re pa eg : Int32}  : cShow (fDrive C e w v s) e v p h tk re pa eg 60 e = h := by
  unfold cShow fDrive
  simp [zs_at]
theorem cSh_61 {C : zm_I} {e w v p s : Nat} {h tk re pa eg : Int32}  : cShow (fDrive C e w v s) e v p h tk re pa eg 61 e = tk := by
  unfold cShow fDrive
  simp [zs_at]
theorem cSh_62 {C : zm_I} {e w v p s : Nat} {h tk re pa eg : Int32}  : cShow (fDrive C e w v s) e v p h tk re pa eg 62 e = re := by
  unfold cShow fDrive
  simp [zs_at]
theorem cSh_63 {C : zm_I} {e w v p s : Nat} {h tk re pa eg : Int32}  : cShow (fDrive C e w v s) e v p h tk re pa eg 63 e = pa := by
  unfold cShow fDrive
  simp [zs_at]
theorem cSh_64 {C : zm_I} {e w v p s : Nat} {h tk re pa eg : Int32}  : cShow (fDrive C e w v s) e v p h tk re pa eg 64 e = eg := by
  unfold cShow fDrive
  simp [zs_at]
theorem cSh_65 {C : zm_I} {e w v p s : Nat} {h tk re pa eg : Int32}  : cShow (fDrive C e w v s) e v p h tk re pa eg 65 e = fFew C (zi (C 67 w)) v s := by
  unfold cShow fDrive
  simp [zs_at]
/-- a show -/
theorem zOut_yes {W Pn w e v p k s : Nat} {C X Y : zm_I} {h tk re pa eg v1 v2 v3 v4 : Int32} (hw : w < W) (hv : v < 8) (hp : p < Pn) (hP4 : Pn ≤ 4) (hk : k < 2) (hk2 : C 57 19 = nI k) (hO : zOut W Pn w e C X Y) :
    zOut W Pn w e (cShow (fDrive C e w v s) e v p h tk re pa eg) X (rShow Y e w v p k (fFew C (zi (C 67 w)) v s) (C (23 + p) 2) h tk re pa eg v1 v2 v3 v4) := by
  obtain ⟨⟨d1, d2, d3, d4, d5, d6, d7, d8⟩, oN, ⟨t1, t2, t3⟩, oX, o5, o6, o7, o8, o9⟩ := hO
  refine ⟨⟨fun v' hv' => ⟨?_, ?_⟩, fun p' hp' => ⟨?_, ?_, ?_⟩, fun j hj => ?_, ?_, ?_, ?_, ?_, ?_⟩, fun v' hv' => ?_, ⟨?_, ?_, k + 1, by omega, ?_⟩, zXg_tr oX rSh_xg, fun i hi => ?_, fun j hj => ?_, fun w' hw' => ⟨?_, ?_⟩, ?_, ?_⟩
  · rw [rSh_122, cSh_67, (d1 v' hv').1]
  · rw [rSh_123, cSh_69, (d1 v' hv').2, (d1 w hw).2]
  · rw [rSh_127, cSh_70]; exact (d2 p' hp').1
  · rw [rSh_128, cSh_72, (d2 p' hp').2.1, (d2 p hp).2.1]
  · rw [rSh_132, cSh_71]; exact (d2 p' hp').2.2
  · rw [rSh_129, cSh_73, d3 j hj, d3 (8 * p + v) (by omega), Nat.mul_comm p 8]
  · rw [rSh_87_79, cSh_66_0, d4]
  · rw [rSh_87_78, cSh_66_1, d5]
  · rw [rSh_87_80, cSh_66_2, d6]
  · rw [rSh_87_82, cSh_66_4, d7]
  · rw [rSh_87_81, cSh_66_3, d8]
  · rw [rSh_126, cSh_57_17, zb_cong (zb_shl hv hv')]
    by_cases c : v' = v
    · rw [if_pos c, zb_t (Or.inl c)]
      rfl
    · rw [if_neg c, oN v' hv', zb_cong (show (v' = v ∨ zbit (C 57 17) v') ↔ zbit (C 57 17) v' from ⟨fun q => q.elim (fun z => absurd z c) id, Or.inr⟩)]
  · rw [rSh_124, if_pos rfl, cSh_57_18 (by omega), t1, Int32.add_assoc]
  · rw [rSh_125, if_pos rfl, cSh_57_19, hk2, nI_add]
  · rw [cSh_57_19, hk2, nI_add]
  · rcases (show i = 0 ∨ i = 1 ∨ i = 2 ∨ i = 3 ∨ i = 4 ∨ i = 5 ∨ i = 6 by omega) with rfl | rfl | rfl | rfl | rfl | rfl | rfl
    · exact rSh_130_0.trans ((o5 0 (by decide)).trans cSh_59.symm)
    · exact rSh_130_1.trans cSh_60.symm
    · exact rSh_130_2.trans cSh_61.symm
    · exact rSh_130_3.trans cSh_62.symm
    · exact rSh_130_4.trans cSh_63.symm
    · exact rSh_130_5.trans cSh_64.symm
    · exact rSh_130_6.trans cSh_65.symm
  · rw [rSh_130 hj]; exact o6 j hj
  · rw [rSh_124, if_neg hw']; exact (o7 w' hw').1
  · rw [rSh_125, if_neg hw']; exact (o7 w' hw').2
  · funext j; rw [rSh_131, o8]
  · rw [rSh_87_66, o9]
