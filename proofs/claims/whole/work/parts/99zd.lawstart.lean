/-! ===== the law's start: what the tables and the premises give ===== -/
def zFl : List Cond := flatC (Jvm.Cond.and given_1 narrow_1)
theorem zs_arr {ty : FieldType} {args : Array Value} {s : State} (h : (Cond.arrayClass ty).before args s = true) : ∃ c : ClassId, ArrOfT s c ty ∧ s.vm.findClass ("[" ++ ty.toString) = some c := by
  obtain ⟨cA, kA, comp, h1, h2, h3⟩ := Cond.arrayClass_spec h
  exact ⟨cA, fun n z => ⟨fun k h => (by cases h), kA, h2, comp, h3⟩, h1⟩
theorem zs_arrA {s : State} (h : va_AOA .int s) : ∃ c : ClassId, ArrOfT s c (.array .int) ∧ s.vm.findClass ("[" ++ (FieldType.array .int).toString) = some c := by
  obtain ⟨comp, c, k, h1, h2, h3, h4, h5⟩ := arrayOverA_spec h
  exact ⟨c, fun n z => ⟨fun k h => (by cases h), k, h3, comp, h4⟩, h5⟩
theorem zs_cls {args : Array Value} {s : State} (hT : ∀ w ∈ zm_T, w.before args s = true) : ∃ D : va_G, ∀ (c : Nat) (q : vw_C), vwCl[c]? = some q → u_Kn s q.1 q.2.1 q.2.2 (D.1 c) (D.2 c) := by
  have h : ∀ c : Nat, ∃ p : ClassId × (Nat → Nat), ∀ q : vw_C, vwCl[c]? = some q → u_Kn s q.1 q.2.1 q.2.2 p.1 p.2 := by
    intro c
    have hc : c = 0 ∨ c = 1 ∨ c = 2 ∨ c = 3 ∨ c = 4 ∨ c = 5 ∨ c = 6 ∨ c = 7 ∨ c = 8 ∨ c = 9 ∨ c = 10 ∨ 11 ≤ c := by omega
    rcases hc with rfl | rfl | rfl | rfl | rfl | rfl | rfl | rfl | rfl | rfl | rfl | hc
    · obtain ⟨a, b, h⟩ := u_known (C := RX0) (T := TX0) (N := 20) (n := 20) hT uTX0 (hT _ (zm_inT 413 (by decide +kernel) (by decide +kernel)))
      exact ⟨(a, b), fun q hq => by cases hq; exact h⟩
    · obtain ⟨a, b, h⟩ := u_known (C := RX1) (T := TX1) (N := 5) (n := 5) hT uTX1 (hT _ (zm_inT 189 (by decide +kernel) (by decide +kernel)))
      exact ⟨(a, b), fun q hq => by cases hq; exact h⟩
    · obtain ⟨a, b, h⟩ := u_known (C := RX3) (T := TX3) (N := 6) (n := 6) hT uTX3 (hT _ (zm_inT 150 (by decide +kernel) (by decide +kernel)))
      exact ⟨(a, b), fun q hq => by cases hq; exact h⟩
    · obtain ⟨a, b, h⟩ := u_known (C := RX4) (T := TX4) (N := 9) (n := 9) hT uTX4 (hT _ (zm_inT 271 (by decide +kernel) (by decide +kernel)))
      exact ⟨(a, b), fun q hq => by cases hq; exact h⟩
    · obtain ⟨a, b, h⟩ := u_known (C := RX5) (T := TX5) (N := 6) (n := 6) hT uTX5 (hT _ (zm_inT 387 (by decide +kernel) (by decide +kernel)))
      exact ⟨(a, b), fun q hq => by cases hq; exact h⟩
    · obtain ⟨a, b, h⟩ := u_known (C := RX6) (T := TX6) (N := 9) (n := 9) hT uTX6 (hT _ (zm_inT 320 (by decide +kernel) (by decide +kernel)))
      exact ⟨(a, b), fun q hq => by cases hq; exact h⟩
    · obtain ⟨a, b, h⟩ := u_known (C := RX7) (T := TX7) (N := 10) (n := 10) hT uTX7 (hT _ (zm_inT 220 (by decide +kernel) (by decide +kernel)))
      exact ⟨(a, b), fun q hq => by cases hq; exact h⟩
    · obtain ⟨a, b, h⟩ := u_known (C := RX8) (T := TX8) (N := 9) (n := 9) hT uTX8 (hT _ (zm_inT 488 (by decide +kernel) (by decide +kernel)))
      exact ⟨(a, b), fun q hq => by cases hq; exact h⟩
    · obtain ⟨a, b, h⟩ := u_known (C := RX9) (T := TX9) (N := 6) (n := 6) hT uTX9 (hT _ (zm_inT 328 (by decide +kernel) (by decide +kernel)))
      exact ⟨(a, b), fun q hq => by cases hq; exact h⟩
    · obtain ⟨a, b, h⟩ := u_known (C := RX10) (T := TX10) (N := 11) (n := 11) hT uTX10 (hT _ (zm_inT 142 (by decide +kernel) (by decide +kernel)))
      exact ⟨(a, b), fun q hq => by cases hq; exact h⟩
    · obtain ⟨a, b, h⟩ := u_known (C := RX11) (T := TX11) (N := 88) (n := 88) hT uTX11 (hT _ (zm_inT 1181 (by decide +kernel) (by decide +kernel)))
      exact ⟨(a, b), fun q hq => by cases hq; exact h⟩
    · exact ⟨((0 : Nat), fun _ => 0), fun q hq => by rw [List.getElem?_eq_none (by exact hc)] at hq; cases hq⟩
  obtain ⟨D, hD⟩ := Classical.axiomOfChoice h
  exact ⟨(fun c => (D c).1, fun c => (D c).2), hD⟩
def zTm (i : Nat) : Term := .string (zm_own i) (zm_idx i)
theorem zs_1 : ∀ i, i < 5 → Cond.exactly (zTm i) "java/lang/String" ∈ zFl := by decide +kernel
theorem zs_2 : ∀ i, i < 5 → Cond.eq (.field (zTm i) "java/lang/String" "coder" "B") (.int 0) ∈ zFl := by decide +kernel
theorem zs_3 : ∀ i, i < 5 → Cond.arrayOf (.field (zTm i) "java/lang/String" "value" "[B") .byte ∈ zFl := by decide +kernel
theorem zs_4 : ∀ i, i < 5 → Cond.eq (.length (.field (zTm i) "java/lang/String" "value" "[B")) (.int (Int32.ofNat (zm_len.getD i 0))) ∈ zFl := by decide +kernel
theorem zs_5 : ∀ i, i < 5 → ∀ j, j < zm_len.getD i 0 → Cond.eq (.elem (.field (zTm i) "java/lang/String" "value" "[B") (.int (Int32.ofNat j))) (.int ((zm_byt.getD i []).getD j 0)) ∈ zFl := by decide +kernel
theorem zs_6 : ∀ i, i < 5 → ∀ j, j < 5 → i ≠ j → Cond.not (Cond.eq (zTm i) (zTm j)) ∈ zFl ∨ Cond.not (Cond.eq (zTm j) (zTm i)) ∈ zFl := by decide +kernel
theorem zs_7 : ∀ j, j < 5 → Cond.eq (.elem (.static "VanShows$Law" "WITHOUT_LINE" "[I") (.int (Int32.ofNat j))) (.int (zm_wl.getD j 0)) ∈ zFl := by decide +kernel
theorem zs_8 : ∀ i, i < 5 → Cond.stringRef (zm_own i) (zm_idx i) (zm_txt i) ∈ lw_tbl := by decide +kernel
theorem zs_9 : ∀ w ∈ zLB, w ∈ lw_tbl := by decide +kernel
theorem zs_N : ∀ w ∈ zm_N, w.onTables = true := fun w hw => by
  have hx := (List.mem_filter.mp hw).2
  cases w <;> first | rfl | (simp [zm_isN] at hx)
def zTy (c0 c1 c2 c3 c4 : ClassId) : FieldType → ClassId
  | .int => c0
  | .byte => c1
  | .boolean => c2
  | .long => c3
  | _ => c4
def zAd (t0 : Nat) (adK adV : Nat → Nat) (tf b : Nat) (i : Nat) : Nat := if i = 0 then t0 else if i < 6 then adK (i - 1) else if i < 11 then adV (i - 6) else if i = 11 then tf else b
theorem zAd_K {t0 tf b : Nat} {adK adV : Nat → Nat} {i : Nat} (h : i < 5) : zAd t0 adK adV tf b (1 + i) = adK i := by
  unfold zAd
  rw [if_neg (by omega), if_pos (by omega), show 1 + i - 1 = i by omega]
theorem zAd_V {t0 tf b : Nat} {adK adV : Nat → Nat} {i : Nat} (h : i < 5) : zAd t0 adK adV tf b (6 + i) = adV i := by
  unfold zAd
  rw [if_neg (by omega), if_neg (by omega), if_pos (by omega), show 6 + i - 6 = i by omega]
theorem zs_S {A : Nat → Prop} {U : State} {H : Heap} {adK adV adK' adV' : Nat → Nat} (h : vk_S 5 zm_len zm_byt adK adV A U H) (hK : ∀ i, i < 5 → adK' i = adK i) (hV : ∀ i, i < 5 → adV' i = adV i) : vk_S 5 zm_len zm_byt adK' adV' A U H :=
  ⟨fun i hi => by rw [hK i hi, hV i hi]; exact h.1 i hi, fun i j hi hj e => h.2 i j hi hj (by rw [← hK i hi, ← hK j hj]; exact e)⟩
theorem zs_all {s : State} {b n : Nat} {xs : Nat → Int32} (hts : ∀ w ∈ lw_tbl, w.before #[Value.ref b] s = true) (hg : (Jvm.Cond.and given_1 narrow_1).before #[Value.ref b] s = true) : ∃ g : zm_G, g.1 = s.heap ∧ g.2.2.2 12 = b ∧ zm_Gl g s ∧ zm_GX g s ∧ zLX s := by
  have hf := flat_of_before _ hg
  have hT : ∀ w ∈ zm_T, w.before #[Value.ref b] s = true := fun w hw => hts w (List.mem_filter.mp hw).1
  obtain ⟨D, hD⟩ := zs_cls hT
  have hAO : va_AOA .int s := va_AOA.of (A := #[Value.ref b]) (hts _ (List.mem_of_getElem? (i := 156) (by decide +kernel)))
  obtain ⟨c0, a0, b0⟩ := zs_arr (ty := .int) (hts _ (List.mem_of_getElem? (i := 187) (by decide +kernel)))
  obtain ⟨c1, a1, b1⟩ := zs_arr (ty := .byte) (hts _ (List.mem_of_getElem? (i := 186) (by decide +kernel)))
  obtain ⟨c2, a2, b2⟩ := zs_arr (ty := .boolean) (hts _ (List.mem_of_getElem? (i := 1459) (by decide +kernel)))
  obtain ⟨c3, a3, b3⟩ := zs_arr (ty := .long) (hts _ (List.mem_of_getElem? (i := 318) (by decide +kernel)))
  obtain ⟨c4, a4, b4⟩ := zs_arrA hAO
  obtain ⟨t0, e0, hT0⟩ := va_Tof (args := #[Value.ref b]) (s := s) (tm := .static "VanShows$Law" "WITHOUT_LINE" "[I") (ty := .int) (N := 5) (f := fun j => .int (zm_wl.getD j 0)) (A := fun q => s.heap.size ≤ q) (by decide) (hf _ (by decide +kernel)) (va_eqt (hf _ (by decide +kernel))) (fun j hj => va_eqt (hf _ (zs_7 j hj))) (fun a ha h => Nat.not_le.mpr ha h)
  obtain ⟨adK, adV, hS, hKe⟩ := vk_Sof (args := #[Value.ref b]) (s := s) (N := 5) (tm := zTm) (len := zm_len) (byt := zm_byt) (A := fun q => s.heap.size ≤ q) (by decide) (fun i hi => hf _ (zs_1 i hi)) (fun i hi => hf _ (zs_2 i hi)) (fun i hi => hf _ (zs_3 i hi)) (fun i hi => hf _ (zs_4 i hi)) (fun i hi j hj => hf _ (zs_5 i hi j hj)) (fun i j hi hj hne => (zs_6 i hi j hj hne).imp (hf _) (hf _)) (fun a ha h => Nat.not_le.mpr ha h)
  have hW := va_Zref (A := fun q => s.heap.size ≤ q) (hts _ (List.mem_of_getElem? (i := 929) (by decide +kernel))) (hT _ (zm_inT 122 (by decide +kernel) (by decide +kernel))) e0 (fun a ha h => Nat.not_le.mpr ha h)
  have hC := va_Zof (A := fun q => s.heap.size ≤ q) (C := "java/lang/String") (n := "COMPACT_STRINGS") (d := "Z") (v := .int 1) (hts _ (List.mem_of_getElem? (i := 640) (by decide +kernel))) (hT _ (zm_inT 131 (by decide +kernel) (by decide +kernel))) (va_eqt (hf _ (by decide +kernel))) (fun a ha h => Nat.not_le.mpr ha h)
  have hP := va_Zqof (A := fun q => s.heap.size ≤ q) (C := "jdk/internal/util/Preconditions") (n := "SIOOBE_FORMATTER") (d := "Ljava/util/function/BiFunction;") (hts _ (List.mem_of_getElem? (i := 656) (by decide +kernel))) (hT _ (zm_inT 133 (by decide +kernel) (by decide +kernel))) (hf _ (by decide +kernel)) (fun a ha h => Nat.not_le.mpr ha h)
  have hU := vx_Zqof (A := fun q => s.heap.size ≤ q) (C := Bundle.tN) (n := "UNASSIGNED_STACK") (d := Bundle.steD) (hts _ (List.mem_of_getElem? (i := 1125) (by decide +kernel))) (hT _ (zm_inT 136 (by decide +kernel) (by decide +kernel))) (hf _ (by decide +kernel)) (fun a ha h => Nat.not_le.mpr ha h)
  have hQ := vx_Zqof (A := fun q => s.heap.size ≤ q) (C := Bundle.tN) (n := "SUPPRESSED_SENTINEL") (d := Bundle.listD) (hts _ (List.mem_of_getElem? (i := 1127) (by decide +kernel))) (hT _ (zm_inT 136 (by decide +kernel) (by decide +kernel))) (hf _ (by decide +kernel)) (fun a ha h => Nat.not_le.mpr ha h)
  have hLX : zLX s := ⟨fun w hw => va_Nw.of (zLB_on w hw) (hts w (zs_9 w hw)), va_Nc.of (hf _ (by decide +kernel))⟩
  obtain ⟨tf, hP⟩ : ∃ tf : Nat, va_Z "jdk/internal/util/Preconditions" "SIOOBE_FORMATTER" "Ljava/util/function/BiFunction;" .null (fun q => s.heap.size ≤ q) s s.heap ∨ va_Z "jdk/internal/util/Preconditions" "SIOOBE_FORMATTER" "Ljava/util/function/BiFunction;" (.ref tf) (fun q => s.heap.size ≤ q) s s.heap := by
    rcases hP with h | ⟨t, h⟩
    · exact ⟨0, Or.inl h⟩
    · exact ⟨t, Or.inr h⟩
  refine ⟨(s.heap, D, zTy c0 c1 c2 c3 c4, zAd t0 adK adV tf b), rfl, rfl, ⟨⟨hD, fun k q hq => ?_⟩, fun w hw => va_Nw.of (zs_N w hw) (hts w (List.mem_filter.mp hw).1), hW, hT0, hC, hP, zs_S hS (fun i hi => zAd_K hi) (fun i hi => zAd_V hi), fun i hi => ?_⟩, ⟨hAO, hU, hQ⟩, hLX⟩
  · have hk : k = 0 ∨ k = 1 ∨ k = 2 ∨ k = 3 ∨ k = 4 ∨ 5 ≤ k := by omega
    rcases hk with rfl | rfl | rfl | rfl | rfl | hk
    · cases hq; exact ⟨a0, b0⟩
    · cases hq; exact ⟨a1, b1⟩
    · cases hq; exact ⟨a2, b2⟩
    · cases hq; exact ⟨a3, b3⟩
    · cases hq; exact ⟨a4, b4⟩
    · rw [List.getElem?_eq_none (by exact hk)] at hq; cases hq
  · show vk_R (zm_own i) (zm_idx i) (zm_txt i) (zAd t0 adK adV tf b (1 + i)) s
    rw [zAd_K hi]
    exact vk_R.of (hts _ (zs_8 i hi)) (hKe i hi)
