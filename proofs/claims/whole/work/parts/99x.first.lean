/-! ===== the memory when all is made ===== -/
def zGi : zm_I := fI_X11_init_87 (fI_X10_init_0 (fun _ _ => 0))
def zGr : zm_R := rI_X11_init_87 (rI_X10_init_0 (fun _ _ => none))
theorem zg_1 : zGi 3 3 = nI 0 ∧ zGi 87 3 = nI 0 ∧ (∀ v, v < 8 → ∀ k, k < 8 → zGi 89 (8 * v + k) = zGi (5 + v) k) ∧ ∀ v, v < 8 → zGi (5 + v) 1 = nI 0 := by decide +kernel
theorem zg_2 : zGi 3 4 = nI 0 ∧ zGi 87 5 = nI 0 ∧ zGi 3 5 = nI 0 ∧ zGi 87 10 = nI 0 := by decide +kernel
theorem zg_2t : ∀ s, s < 4 → (∀ i, i < 64 → zGi (14 + s) i = nI (zi (zGi (14 + s) i)) ∧ zi (zGi (14 + s) i) ≤ 1000000) ∧ (∀ a, a < 8 → zi (zGi (14 + s) (a * 8 + a)) = 0) ∧ ∀ a, a < 8 → ∀ b, b < 8 → zi (zGi (14 + s) (a * 8 + b)) < 1000000 → a = b := by decide +kernel
theorem zg_3 : zGi 19 3 = nI 0 ∧ zGi 87 12 = nI 0 ∧ (∀ v, v < 3 → zGi 21 v = nI 0) ∧ zGi 19 4 = nI 0 ∧ zGi 87 15 = nI 0 ∧ ∀ n, n < 4 → zGi 98 n = zGi 2 n ∧ zGi 2 n = nI 1 := by decide +kernel
theorem zg_6 : zGi 27 8 = nI 0 ∧ zGi 87 18 = nI 0 ∧ (∀ n, n < 4 → ∀ w, w < 3 → zGi 35 (n * 3 + w) = nI 0) ∧ zGi 27 9 = nI 0 ∧ zGi 87 20 = nI 0 := by decide +kernel
theorem zg_8 : zGi 107 0 = zGi 36 5 ∧ zGi 107 1 = zGi 36 6 ∧ zGi 87 46 = zGi 36 8 ∧ ∀ l, l < 5 → zGi 39 l = nI 0 ∧ zGi 40 l = nI 0 ∧ zGi 109 (2 + l) = nI 0 := by decide +kernel
theorem zg_9 : zGi 51 5 = nI 0 ∧ zGi 87 22 = nI 0 ∧ zGi 0 10 = nI 0 ∧ zGi 87 1 = nI 0 ∧ zGi 87 29 = zGi 42 7 ∧ zGi 87 30 = zGi 42 8 ∧ zGi 42 3 = nI 0 ∧ zGi 75 8 = 0 ∧ zGi 87 83 = 0 := by decide +kernel
theorem zg_106 : ∀ j, j < 115 → zGi 106 j = zWl.getD j 0 := by decide +kernel
set_option maxRecDepth 100000 in
theorem zg_59 : zGi 59 = fun _ => 0 := rfl
set_option maxRecDepth 100000 in
theorem zg_108 (j : Nat) : zGi 108 j = 0 ∨ zGi 108 j = 1 := by
  unfold zGi fI_X11_init_87
  rw [rKp0_q _ _ (by decide) (by decide) (by decide) (by decide) (by decide)]
  by_cases c : j < 7
  · rw [rPl_8 _ j c]; exact Or.inl rfl
  · rw [rPl_8n _ j c]; exact Or.inl rfl
theorem zI_first : zIv zGi := by
  have z0 : ∀ n : Nat, 0 < n → n < 2 ^ 31 → zx (nI 0) n := fun n h1 h2 => zx_of h1 h2
  obtain ⟨a1, a2, a3, a4⟩ := zg_1
  obtain ⟨b1, b2, b3, b4⟩ := zg_2
  obtain ⟨c1, c2, c3, c4, c5, c6⟩ := zg_3
  obtain ⟨d1, d2, d3, d4, d5⟩ := zg_6
  obtain ⟨e1, e2, e3, e4⟩ := zg_8
  obtain ⟨f1, f2, f3, f4, f5, f6, f7, f8, f9⟩ := zg_9
  refine ⟨0, 0, 0, 0, 0, 0, 0, 0, 0, ⟨a1, by decide, a2, fun v k hv hk => a3 v hv k hk, fun v hv => by rw [a4 v hv]; exact z0 _ (by decide) (by decide)⟩, ⟨b1, by decide, b2, fun i hi => absurd hi (Nat.not_lt_zero i), fun s hs => ?_, b3, by decide, b4, fun k hk => absurd hk (Nat.not_lt_zero k)⟩, ⟨c1, by decide, c2, fun v hv => absurd hv (Nat.not_lt_zero v), fun v _ hv => c3 v hv⟩, ⟨c4, by decide, c5, fun p k hp => absurd hp (Nat.not_lt_zero p), fun p hp => absurd hp (Nat.not_lt_zero p)⟩, fun n hn => ⟨(c6 n hn).1, 1, by decide, by decide, (c6 n hn).2⟩, ⟨d1, by decide, d2, fun e he => absurd he (Nat.not_lt_zero e), fun e he => absurd he (Nat.not_lt_zero e), fun n w hn hw => d3 n hn w hw⟩, ⟨d4, by decide, d5, fun i hi => absurd hi (Nat.not_lt_zero i), fun i hi => absurd hi (Nat.not_lt_zero i)⟩, ⟨e1, e2, e3, fun l hl => Or.inl ⟨by rw [(e4 l hl).1, (e4 l hl).2.1], (e4 l hl).2.2⟩, fun l hl => ⟨0, 0, (e4 l hl).1, (e4 l hl).2.1, Nat.le_refl _, by decide, fun k _ hk => absurd hk (Nat.not_lt_zero k)⟩⟩, ⟨f1, by decide, f2, fun i hi => absurd hi (Nat.not_lt_zero i)⟩, ⟨f3, by decide, f4, fun i hi => absurd hi (Nat.not_lt_zero i)⟩, ⟨f5, f6, by rw [f7]; exact z0 _ (by decide) (by decide), zg_106, zg_108⟩, Or.inl ⟨f8, f9⟩, fun e => by rw [zg_59]; exact z0 8 (by decide) (by decide)⟩
  obtain ⟨t1, t2, t3⟩ := zg_2t s hs
  refine ⟨t1, fun a b ha hb => (t1 (a * 8 + b) (by omega)).2, fun a ha => t2 a ha, fun f x y l hf he => ?_, fun a b ha hb hq => ?_⟩
  · obtain ⟨i, hi, _⟩ := he
    exact absurd hi (Nat.not_lt_zero i)
  · have e := t3 a ha b hb hq
    subst e
    show zWay _ a a (zi (zGi (14 + s) (a * 8 + a)))
    rw [t2 a ha]
    exact zWay_rf _ a
/-! references: those that the shape uses -/
theorem zm_ce_cgo {g : zm_G} {ad : Nat → Nat} {sh : List zm_K} {gi : zm_I} {gl : zm_J} {gr gr' : zm_R} {k : Nat} {c : zm_K} (ho : ∀ ci, c = .inl ci → ∀ j, j < zm_nf ci → gr' k j = gr k j) (ha : ∀ ty n, c = .inr (ty, n) → zm_isR ty = true → gr' k = gr k) : zm_ce g ad (sh, gi, gl, gr') k c = zm_ce g ad (sh, gi, gl, gr) k c := by
  cases c with
  | inl ci =>
    show (Sum.inr (ci, zm_fs ad (sh, gi, gl, gr') k ci) : va_E) = Sum.inr (ci, zm_fs ad (sh, gi, gl, gr) k ci)
    unfold zm_fs
    rw [List.map_congr_left (fun j hj => by
      have e := ho ci rfl j (List.mem_range.mp hj)
      show zm_val ad (sh, gi, gl, gr') k j (zm_tyOf ci j) = zm_val ad (sh, gi, gl, gr) k j (zm_tyOf ci j)
      unfold zm_val
      cases zm_tyOf ci j <;> simp only [e])]
  | inr q =>
    obtain ⟨ty, n⟩ := q
    show (Sum.inl (g.2.2.1 ty, zm_ar ad (sh, gi, gl, gr') k ty n) : va_E) = Sum.inl (g.2.2.1 ty, zm_ar ad (sh, gi, gl, gr) k ty n)
    have : zm_ar ad (sh, gi, gl, gr') k ty n = zm_ar ad (sh, gi, gl, gr) k ty n := by
      cases ty with
      | object C => have e := ha _ _ rfl rfl; unfold zm_ar; simp only [e]
      | array t => have e := ha _ _ rfl rfl; unfold zm_ar; simp only [e]
      | _ => rfl
    rw [this]
def zm_oj : List Nat := [0, 3, 19, 27, 36, 42, 43, 50, 51, 57, 75, 76, 87]
def zm_ojc (k : Nat) : Bool := match zSH[k]? with
  | some (Sum.inl _) => decide (k ∈ zm_oj)
  | some (Sum.inr q) => !(zm_isR q.1) || decide (k = 4 ∨ k = 13 ∨ k = 22 ∨ k = 58)
  | none => true
theorem zg_oj : ∀ k, k < 136 → zm_ojc k = true := by decide +kernel
theorem zg_rt : ∀ k ∈ zm_oj, ∀ j, j < 90 → zGr k j = zRT 27 k j := by decide +kernel
theorem zg_nf : ∀ ci, ci < 11 → zm_nf ci ≤ 88 := by decide +kernel
theorem zg_a {k n b : Nat} (h : ∀ j, j < n → zGr k j = zRT 27 k j) (h1 : ∀ j, zGr k j = if j < n then some (b + j) else none) (h2 : ∀ j, n ≤ j → zRT 27 k j = none) : zGr k = zRT 27 k := funext fun j => by
  by_cases c : j < n
  · exact h j c
  · rw [h1, if_neg c, h2 j (by omega)]
set_option maxRecDepth 100000 in
theorem zg_4 : zGr 4 = zRT 27 4 := zg_a (n := 8) (b := 5) (by decide +kernel) (fun _ => rfl) (fun j hj => by
  match j, hj with
  | j + 8, _ => rfl)
set_option maxRecDepth 100000 in
theorem zg_13 : zGr 13 = zRT 27 13 := zg_a (n := 4) (b := 14) (by decide +kernel) (fun _ => rfl) (fun j hj => by
  match j, hj with
  | j + 4, _ => rfl)
set_option maxRecDepth 100000 in
theorem zg_22 : zGr 22 = zRT 27 22 := zg_a (n := 4) (b := 23) (by decide +kernel) (fun _ => rfl) (fun j hj => by
  match j, hj with
  | j + 4, _ => rfl)
set_option maxRecDepth 100000 in
theorem zg_58 : zGr 58 = zRT 27 58 := zg_a (n := 7) (b := 59) (by decide +kernel) (fun _ => rfl) (fun j hj => by
  match j, hj with
  | j + 7, _ => rfl)
theorem zg_ws (g : zm_G) (ad : Nat → Nat) (gi : zm_I) (gl : zm_J) : zm_ws g ad (zSH, gi, gl, zGr) = zm_ws g ad (zSH, gi, gl, zRT 27) := by
  unfold zm_ws
  show zSH.mapIdx _ = zSH.mapIdx _
  apply List.ext_getElem?
  intro k
  rw [List.getElem?_mapIdx, List.getElem?_mapIdx]
  cases h : zSH[k]? with
  | none => rfl
  | some c =>
    have hk : k < 136 := (List.getElem?_eq_some_iff.mp h).1
    have hq := zg_oj k hk
    unfold zm_ojc at hq
    rw [h] at hq
    show some (ad k, zm_ce g ad (zSH, gi, gl, zGr) k c) = some (ad k, zm_ce g ad (zSH, gi, gl, zRT 27) k c)
    rw [zm_ce_cgo (gr := zRT 27) (fun ci e j hj => ?_) (fun ty n e hR => ?_)]
    · subst e
      have hm : k ∈ zm_oj := by simpa using hq
      have hci : ci < 11 := by
        rcases Nat.lt_or_ge ci 11 with z | z
        · exact z
        · have : zm_nf ci = 0 := by unfold zm_nf; rw [List.getElem?_eq_none (by show 11 ≤ ci; exact z)]
          omega
      exact zg_rt k hm j (by have := zg_nf ci hci; omega)
    · subst e
      have hm : k = 4 ∨ k = 13 ∨ k = 22 ∨ k = 58 := by simpa [hR] using hq
      rcases hm with rfl | rfl | rfl | rfl
      · exact zg_4
      · exact zg_13
      · exact zg_22
      · exact zg_58
theorem zA_rt {x : zm_X} {g : zm_G} {y : zm_Y} {d mc ms : Nat} {Q : State → Prop} {ce sl pc : Nat} {L : List (Option Value)} {st : List Value} {gi : zm_I} {gl : zm_J} (k : zA x g y d mc ms Q ce sl pc L st (zSH, gi, gl, zRT 27)) : zA x g y d mc ms Q ce sl pc L st (zSH, gi, gl, zGr) := by
  intro F hn ad H locs ls h1 h2 h3 h4 h5
  obtain ⟨w1, w2, w3, w4, w5⟩ := h3
  rw [zg_ws] at w3 w4
  exact k F hn ad H locs ls h1 h2 ⟨w1, w2, w3, w4, w5⟩ h4 h5
