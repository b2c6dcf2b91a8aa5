def fExS (W Pn E K Ps wh : Nat) (s : (zm_I × zm_J) × Int64) (i : Nat) : (zm_I × zm_J) × Int64 :=
  if nI i &&& (fAll (fTon (s.1.1 3 5)) ^^^ (-1)) = 0 then (fGo 27 (nI i) W Pn E K s.1, s.2 + fChO (fGo 27 (nI i) W Pn E K s.1).1 (nI i) Ps 4 1 * ((fGo 27 (nI i) W Pn E K s.1).1 66 wh).toInt64) else s
def fExL (W Pn E K Ps wh : Nat) (s : (zm_I × zm_J) × Int64) : Nat → (zm_I × zm_J) × Int64
  | 0 => s
  | i + 1 => fExS W Pn E K Ps wh (fExL W Pn E K Ps wh s i) i
theorem fExL_in {W Pn E K Ps wh : Nat} {s : (zm_I × zm_J) × Int64} (hR : zRs 27 W Pn E K s.1.1) : ∀ i, zRs 27 W Pn E K (fExL W Pn E K Ps wh s i).1.1 ∧ zAg s.1.1 (fExL W Pn E K Ps wh s i).1.1
  | 0 => ⟨hR, zAg.rf _⟩
  | i + 1 => by
    obtain ⟨h1, h2⟩ := fExL_in (Ps := Ps) (wh := wh) hR i
    show zRs 27 W Pn E K (fExS W Pn E K Ps wh (fExL W Pn E K Ps wh s i) i).1.1 ∧ zAg s.1.1 (fExS W Pn E K Ps wh (fExL W Pn E K Ps wh s i) i).1.1
    unfold fExS
    split
    · have h3 := fGo_ag (sh := nI i) (P := (fExL W Pn E K Ps wh s i).1) (by decide) h1
      exact ⟨zRs_ag (by decide) h3 h1, h2.tr h3⟩
    · exact ⟨h1, h2⟩
theorem ct_expected (g : zm_G) (gi : zm_I) (gl : zm_J) (r : Nat) {Ps : Nat} (hPs : gi 3 5 = nI Ps) (hPs2 : Ps ≤ 2) {W Pn E K : Nat} (hRs : zRs 27 W Pn E K gi) (hE24 : E ≤ 24) (a : Int32)  : zC_l g yX10_expected mX10_expected 6 [.ref 0, .int a] zSH gi gl (zRT r) (fun z gi' gl' gr' => ((nI 0 ≤ a ∧ a ≤ nI 3) ∧ a = nI 3 ∧ z = (1 : Int64) <<< ((nI (16 * Ps)).toInt64 &&& 63) ∧ gi' = gi ∧ gl' = gl ∧ gr' = zRT r) ∨ ((nI 0 ≤ a ∧ a ≤ nI 3) ∧ ¬ a = nI 3 ∧ z = (fExL W Pn E K Ps (zi a) ((gi, gl), 0) 256).2 ∧ gi' = (fExL W Pn E K Ps (zi a) ((gi, gl), 0) 256).1.1 ∧ gl' = (fExL W Pn E K Ps (zi a) ((gi, gl), 0) 256).1.2 ∧ ∃ r2, gr' = zRT r2) ∨ (¬ (nI 0 ≤ a ∧ a ≤ nI 3) ∧ z = -9223372036854775808 ∧ gi' = gi ∧ gl' = gl ∧ gr' = zRT r)) := by
  have hW := hRs.1
  have hW3 := hRs.2.1
  have hP := hRs.2.2.1
  have hP4 := hRs.2.2.2.1
  have hE := hRs.2.2.2.2.1
  refine zC_l_of [some (.ref 0), some (.int a), none, none, none] (by decide) rfl rfl (Nat.le_of_ble_eq_true rfl) (fun x => ?_)
  refine zA_iload_1 dX10_expected_0 ?_
  refine zA_iconst (nI 0) dX10_expected_1 ic_0 ?_
  refine zA_iconst (nI 3) dX10_expected_2 ic_3 ?_
  refine zA_cSi (ct_isWithin g _ _ _ a (nI 0) (nI 3)) calX10_isWithin stX10_isWithin lX10_113 dX10_expected_3 (by decide) (by simp [Value.category]) rfl (Nat.le_refl _) (Nat.le_refl _) (fun zz gi' gl' gr' ⟨hz, q1, q2, q3⟩ => ?_)
  rw [hz, q1, q2, q3]
  clear hz q1 q2 q3
  refine zA_if_neB 13 dX10_expected_6 (by decide) (fun g0 => ?_) (fun g0 => ?_)
  · refine zA_iload_1 dX10_expected_13 ?_
    refine zA_iconst (nI 3) dX10_expected_14 ic_3 ?_
    refine zA_icmp_ne 31 dX10_expected_15 (by decide) (fun g1 => ?_) (fun g1 => ?_)
    · obtain ⟨k, hk, rfl⟩ := zwi_nat g0 (by omega)
      have hzk : zi (nI k) = k := zi_nI (by omega)
      rw [hzk]
      refine zA_lconst 0 dX10_expected_31 (by decide) ?_
      refine zA_lstore_2 dX10_expected_32 rfl ?_
      refine zA_iconst (nI 0) dX10_expected_33 ic_0 ?_
      refine zA_istore_4 dX10_expected_34 rfl ?_
      have key : ∀ (m i rr : Nat), i + m = 256 → zB_l x g mX10_expected 6 zSH (fun z gi' gl' gr' => ((nI 0 ≤ nI k ∧ nI k ≤ nI 3) ∧ nI k = nI 3 ∧ z = (1 : Int64) <<< ((nI (16 * Ps)).toInt64 &&& 63) ∧ gi' = gi ∧ gl' = gl ∧ gr' = zRT r) ∨ ((nI 0 ≤ nI k ∧ nI k ≤ nI 3) ∧ ¬ nI k = nI 3 ∧ z = (fExL W Pn E K Ps (k) ((gi, gl), 0) 256).2 ∧ gi' = (fExL W Pn E K Ps (k) ((gi, gl), 0) 256).1.1 ∧ gl' = (fExL W Pn E K Ps (k) ((gi, gl), 0) 256).1.2 ∧ ∃ r2, gr' = zRT r2) ∨ (¬ (nI 0 ≤ nI k ∧ nI k ≤ nI 3) ∧ z = -9223372036854775808 ∧ gi' = gi ∧ gl' = gl ∧ gr' = zRT r)) 36 [some (.ref 0), some (.int (nI k)), some (.long ((fExL W Pn E K Ps k ((gi, gl), 0) i).2)), none, some (.int (nI i))] [] ((fExL W Pn E K Ps k ((gi, gl), 0) i).1.1) ((fExL W Pn E K Ps k ((gi, gl), 0) i).1.2) (zRT rr) := by
        intro m
        induction m with
        | zero =>
          intro i rr hi
          obtain ⟨s1, s2⟩ := fExL_in (Ps := Ps) (wh := k) (s := ((gi, gl), 0)) hRs i
          generalize hX : fExL W Pn E K Ps k ((gi, gl), 0) i = X at s1 s2 ⊢
          have x5 : X.1.1 3 5 = nI Ps := (congrFun (s2 3 (by omega)) 5).trans hPs
          refine zA_iload_4 dX10_expected_36 ?_
          refine zA_sipush (nI 255) dX10_expected_38 sc_255 ?_
          refine zA_icmp_gtN 98 dX10_expected_41 (by decide) (by omega) (by omega) (fun h => ?_) (fun h => ?_)
          · have e : i = 256 := by omega
            rw [e] at hX
            refine zA_lload_2 dX10_expected_98 ?_
            exact zB_lret rfl dX10_expected_99 (Or.inr (Or.inl ⟨g0, g1, by rw [hX], by rw [hX], by rw [hX], rr, rfl⟩))
          · exact absurd h (by omega)
        | succ m ih =>
          intro i rr hi
          obtain ⟨s1, s2⟩ := fExL_in (Ps := Ps) (wh := k) (s := ((gi, gl), 0)) hRs i
          generalize hX : fExL W Pn E K Ps k ((gi, gl), 0) i = X at s1 s2 ⊢
          have x5 : X.1.1 3 5 = nI Ps := (congrFun (s2 3 (by omega)) 5).trans hPs
          refine zA_iload_4 dX10_expected_36 ?_
          refine zA_sipush (nI 255) dX10_expected_38 sc_255 ?_
          refine zA_icmp_gtN 98 dX10_expected_41 (by decide) (by omega) (by omega) (fun h => ?_) (fun h => ?_)
          · exact absurd h (by omega)
          · refine zA_aload_0 dX10_expected_44 ?_
            refine zA_getR sh_0 fX10_20 dX10_expected_45 rfl (rt_0_2 _) ?_
            refine zA_iload_4 dX10_expected_48 ?_
            refine zA_cVi (ct_canBeShut g X.1.1 X.1.2 rr (nI i)) calX3_canBeShut stX3_canBeShut lX10_223 dX10_expected_50 (by decide) (by simp [Value.category]) rfl (Nat.le_refl _) (Nat.le_refl _) sh_3 rfl (fun zz gi' gl' gr' ⟨hz, q1, q2, q3⟩ => ?_)
            rw [hz, q1, q2, q3]
            clear hz q1 q2 q3
            refine zA_if_eqB 92 dX10_expected_53 (by decide) (fun c => ?_) (fun c => ?_)
            · refine zA_iinc_4 (v := nI (i + 1)) dX10_expected_92 (zn_inc _) rfl ?_
              refine zA_goto 36 dX10_expected_95 (by decide) ?_
              have e9 : fExL W Pn E K Ps k ((gi, gl), 0) (i + 1) = X := by show fExS W Pn E K Ps k (fExL W Pn E K Ps k ((gi, gl), 0) i) i = _; rw [hX]; exact if_neg c
              have h7 := fun (rr : Nat) => ih (i + 1) rr (by omega)
              rw [e9] at h7
              exact h7 _
            · refine zA_aload_0 dX10_expected_56 ?_
              refine zA_getR sh_0 fX10_66 dX10_expected_57 rfl (rt_0_8 _) ?_
              refine zA_aload_0 dX10_expected_60 ?_
              refine zA_getR sh_0 fX10_34 dX10_expected_61 rfl (rt_0_4 _) ?_
              refine zA_iload_4 dX10_expected_64 ?_
              refine zA_cVv (ct_goThroughA g X.1.1 X.1.2 rr s1 (nI i)) calX0_goThrough stX0_goThrough lX10_191 dX10_expected_66 (by decide) (by simp [Value.category]) rfl (Nat.le_refl _) (Nat.le_refl _) sh_57 rfl (fun gi' gl' gr' ⟨q1, q2, q3⟩ => ?_)
              rw [q1, q2, q3]
              clear q1 q2 q3
              have hA := fGo_ag (sh := nI i) (P := X.1) (by decide) s1
              have y5 : (fGo 27 (nI i) W Pn E K X.1).1 3 5 = nI Ps := (congrFun (hA 3 (by omega)) 5).trans x5
              refine zA_lload_2 dX10_expected_69 ?_
              refine zA_aload_0 dX10_expected_70 ?_
              refine zA_getR sh_0 fX10_20 dX10_expected_71 rfl (rt_0_2 _) ?_
              refine zA_iload_4 dX10_expected_74 ?_
              refine zA_cVl (ct_chanceOf g (fGo 27 (nI i) W Pn E K X.1).1 (fGo 27 (nI i) W Pn E K X.1).2 27 y5 hPs2 (nI i)) calX3_chanceOf stX3_chanceOf lX10_226 dX10_expected_76 (by decide) (by simp [Value.category]) rfl (Nat.le_refl _) (Nat.le_refl _) sh_3 rfl (fun zz gi' gl' gr' ⟨hz, q1, q2, q3⟩ => ?_)
              rw [hz, q1, q2, q3]
              clear hz q1 q2 q3
              refine zA_aload_0 dX10_expected_79 ?_
              refine zA_getR sh_0 fX10_66 dX10_expected_80 rfl (rt_0_8 _) ?_
              refine zA_getR sh_57 fX10_201 dX10_expected_83 rfl (rt_57_5 _) ?_
              refine zA_iload_1 dX10_expected_86 ?_
              refine zA_iald (v := ((fGo 27 (nI i) W Pn E K X.1).1 66 k)) k sh_66 dX10_expected_87 rfl (by omega) (by decide) rfl ?_
              refine zA_i2l dX10_expected_88 ?_
              refine zA_lmul dX10_expected_89 ?_
              refine zA_ladd dX10_expected_90 ?_
              refine zA_lstore_2 dX10_expected_91 rfl ?_
              refine zA_iinc_4 (v := nI (i + 1)) dX10_expected_92 (zn_inc _) rfl ?_
              refine zA_goto 36 dX10_expected_95 (by decide) ?_
              have e9 : fExL W Pn E K Ps k ((gi, gl), 0) (i + 1) = (fGo 27 (nI i) W Pn E K X.1, X.2 + fChO (fGo 27 (nI i) W Pn E K X.1).1 (nI i) Ps 4 1 * ((fGo 27 (nI i) W Pn E K X.1).1 66 k).toInt64) := by show fExS W Pn E K Ps k (fExL W Pn E K Ps k ((gi, gl), 0) i) i = _; rw [hX]; exact if_pos c
              have h7 := fun (rr : Nat) => ih (i + 1) rr (by omega)
              rw [e9] at h7
              exact h7 _
      exact key 256 0 r (by omega)
    · refine zA_lconst 1 dX10_expected_18 (by decide) ?_
      refine zA_bipush (nI 16) dX10_expected_19 bc_16 ?_
      refine zA_aload_0 dX10_expected_21 ?_
      refine zA_getR sh_0 fX10_20 dX10_expected_22 rfl (rt_0_2 _) ?_
      refine zA_getI (v := (nI Ps)) sh_3 fX10_134 dX10_expected_25 rfl hPs ?_
      refine zA_imulN dX10_expected_28 ?_
      refine zA_lshl dX10_expected_29 ?_
      exact zB_lret rfl dX10_expected_30 (Or.inl ⟨g0, g1, rfl, rfl, rfl, rfl⟩)
  · refine zA_ldc2 kX10_221 dX10_expected_9 ?_
    exact zB_lret rfl dX10_expected_12 (Or.inr (Or.inr ⟨g0, rfl, rfl, rfl, rfl⟩))
def fEnd (re se : Int32) (k : Nat) : Int32 := match k with
  | 0 => if re = -1 then nI 0 else re
  | 1 => if re = -1 then se else re
  | _ => if re = -1 then nI 1 else nI 0
theorem ct_endOf (g : zm_G) {sh : List zm_K} (gi : zm_I) (gl : zm_J) (gr : zm_R) (re se : Int32) {k : Nat} (hk : k ≤ 2)  : zC_i g yX10_endOf mX10_endOf 0 [.int re, .int se, .int (nI k)] sh gi gl gr (fun z gi' gl' gr' => z = fEnd re se k ∧ gi' = gi ∧ gl' = gl ∧ gr' = gr) := by
  refine zC_i_of [some (.int re), some (.int se), some (.int (nI k)), none] (by decide) rfl rfl (Nat.le_of_ble_eq_true rfl) (fun x => ?_)
  refine zA_iload_0 dX10_endOf_0 ?_
  refine zA_iconst (-1) dX10_endOf_1 ic_m1 ?_
  refine zA_icmp_ne 9 dX10_endOf_2 (by decide) (fun h => ?_) (fun h => ?_)
  · refine zA_iconst (nI 0) dX10_endOf_9 ic_0 ?_
    refine zA_istore_3 dX10_endOf_10 rfl ?_
    refine zA_iload_2 dX10_endOf_11 ?_
    rcases (show k = 0 ∨ k = 1 ∨ k = 2 by omega) with rfl | rfl | rfl
    · refine zA_lookup 40 dX10_endOf_12 (by decide) (off := 28) (by decide) (by decide) ?_
      refine zA_iload_3 dX10_endOf_40 ?_
      refine zA_if_eq 48 dX10_endOf_41 (by decide) (fun _ => ?_) (fun hh => absurd (by decide) hh)
      refine zA_iload_0 dX10_endOf_48 ?_
      exact zB_iret rfl dX10_endOf_49 (⟨(if_neg h).symm, rfl, rfl, rfl⟩)
    · refine zA_lookup 50 dX10_endOf_12 (by decide) (off := 38) (by decide) (by decide) ?_
      refine zA_iload_3 dX10_endOf_50 ?_
      refine zA_if_eq 58 dX10_endOf_51 (by decide) (fun _ => ?_) (fun hh => absurd (by decide) hh)
      refine zA_iload_0 dX10_endOf_58 ?_
      exact zB_iret rfl dX10_endOf_59 (⟨(if_neg h).symm, rfl, rfl, rfl⟩)
    · refine zA_lookup 60 dX10_endOf_12 (by decide) (off := 48) (by decide) (by decide) ?_
      refine zA_iload_3 dX10_endOf_60 ?_
      refine zA_if_eq 68 dX10_endOf_61 (by decide) (fun _ => ?_) (fun hh => absurd (by decide) hh)
      refine zA_iconst (nI 0) dX10_endOf_68 ic_0 ?_
      exact zB_iret rfl dX10_endOf_69 (⟨(if_neg h).symm, rfl, rfl, rfl⟩)
  · refine zA_iconst (nI 1) dX10_endOf_5 ic_1 ?_
    refine zA_goto 10 dX10_endOf_6 (by decide) ?_
    refine zA_istore_3 dX10_endOf_10 rfl ?_
    refine zA_iload_2 dX10_endOf_11 ?_
    rcases (show k = 0 ∨ k = 1 ∨ k = 2 by omega) with rfl | rfl | rfl
    · refine zA_lookup 40 dX10_endOf_12 (by decide) (off := 28) (by decide) (by decide) ?_
      refine zA_iload_3 dX10_endOf_40 ?_
      refine zA_if_eq 48 dX10_endOf_41 (by decide) (fun hh => absurd hh (by decide)) (fun _ => ?_)
      refine zA_iconst (nI 0) dX10_endOf_44 ic_0 ?_
      refine zA_goto 49 dX10_endOf_45 (by decide) ?_
      exact zB_iret rfl dX10_endOf_49 (⟨(if_pos h).symm, rfl, rfl, rfl⟩)
    · refine zA_lookup 50 dX10_endOf_12 (by decide) (off := 38) (by decide) (by decide) ?_
      refine zA_iload_3 dX10_endOf_50 ?_
      refine zA_if_eq 58 dX10_endOf_51 (by decide) (fun hh => absurd hh (by decide)) (fun _ => ?_)
      refine zA_iload_1 dX10_endOf_54 ?_
      refine zA_goto 59 dX10_endOf_55 (by decide) ?_
      exact zB_iret rfl dX10_endOf_59 (⟨(if_pos h).symm, rfl, rfl, rfl⟩)
    · refine zA_lookup 60 dX10_endOf_12 (by decide) (off := 48) (by decide) (by decide) ?_
      refine zA_iload_3 dX10_endOf_60 ?_
      refine zA_if_eq 68 dX10_endOf_61 (by decide) (fun hh => absurd hh (by decide)) (fun _ => ?_)
      refine zA_iconst (nI 1) dX10_endOf_64 ic_1 ?_
      refine zA_goto 69 dX10_endOf_65 (by decide) ?_
      exact zB_iret rfl dX10_endOf_69 (⟨(if_pos h).symm, rfl, rfl, rfl⟩)
def fEnS (M : zm_I) (k : Nat) (s : Int32) (i : Nat) : Int32 := if M 59 i = 0 then s + fEnd (M 56 (zi (M 30 i) * 4 + zi (M 28 i))) (M (5 + zi (M 30 i)) 1) k else s
def fEnL (M : zm_I) (k : Nat) : Nat → Int32
  | 0 => nI 0
  | i + 1 => fEnS M k (fEnL M k i) i
theorem fSettle_nq (gi : zm_I) (n : Nat) {a : Nat} (h : a ≠ 56) : fSettle gi n a = gi a := by
  unfold fSettle
  have key : ∀ (m : Nat) (p : zm_I × Int64), (fSetL gi m p).1 a = p.1 a := by
    intro m
    induction m with
    | zero => intro p; rfl
    | succ m ih => intro p; exact (ih _).trans (fSetStep_nq gi m p h)
  rw [key]
  exact zm_une h
theorem ct_ends (g : zm_G) (gi : zm_I) (gl : zm_J) (r : Nat) {T : Nat} (hT : gi 51 5 = nI T) (hT40 : T ≤ 40) (hnt : ∀ i, i < T → gi 55 i = -1 → zx (gi 52 i) 8 ∧ zx (gi 53 i) 4) {W Pn E K : Nat} (hRs : zRs 27 W Pn E K gi) (hE24 : E ≤ 24) (a b : Int32)  : zC_i g yX10_ends mX10_ends 6 [.ref 0, .int a, .int b] zSH gi gl (zRT r) (fun z gi' gl' gr' => (((nI 0 ≤ a ∧ a ≤ nI T) ∧ (nI 0 ≤ b ∧ b ≤ nI 2)) ∧ z = fEnL (fGo 27 (nI 0) W Pn E K (fSettle gi (zi a), gl)).1 (zi b) E ∧ gi' = (fGo 27 (nI 0) W Pn E K (fSettle gi (zi a), gl)).1 ∧ gl' = (fGo 27 (nI 0) W Pn E K (fSettle gi (zi a), gl)).2 ∧ gr' = zRT 27) ∨ (¬ ((nI 0 ≤ a ∧ a ≤ nI T) ∧ (nI 0 ≤ b ∧ b ≤ nI 2)) ∧ z = -1 ∧ gi' = gi ∧ gl' = gl ∧ gr' = zRT r)) := by
  have hW := hRs.1
  have hW3 := hRs.2.1
  have hP := hRs.2.2.1
  have hP4 := hRs.2.2.2.1
  have hE := hRs.2.2.2.2.1
  refine zC_i_of [some (.ref 0), some (.int a), some (.int b), none, none, none] (by decide) rfl rfl (Nat.le_of_ble_eq_true rfl) (fun x => ?_)
  refine zA_iload_1 dX10_ends_0 ?_
  refine zA_iconst (nI 0) dX10_ends_1 ic_0 ?_
  refine zA_aload_0 dX10_ends_2 ?_
  refine zA_getR sh_0 fX10_57 dX10_ends_3 rfl (rt_0_7 _) ?_
  refine zA_getI (v := (nI T)) sh_51 fX10_249 dX10_ends_6 rfl hT ?_
  refine zA_cSi (ct_isWithin g _ _ _ a (nI 0) (nI T)) calX10_isWithin stX10_isWithin lX10_113 dX10_ends_9 (by decide) (by simp [Value.category]) rfl (Nat.le_refl _) (Nat.le_refl _) (fun zz gi' gl' gr' ⟨hz, q1, q2, q3⟩ => ?_)
  rw [hz, q1, q2, q3]
  clear hz q1 q2 q3
  refine zA_if_eqB 24 dX10_ends_12 (by decide) (fun g0 => ?_) (fun g0 => ?_)
  · refine zA_iconst (-1) dX10_ends_24 ic_m1 ?_
    exact zB_iret rfl dX10_ends_25 (Or.inr ⟨fun q => (g0) q.1, rfl, rfl, rfl, rfl⟩)
  · refine zA_iload_2 dX10_ends_15 ?_
    refine zA_iconst (nI 0) dX10_ends_16 ic_0 ?_
    refine zA_iconst (nI 2) dX10_ends_17 ic_2 ?_
    refine zA_cSi (ct_isWithin g _ _ _ b (nI 0) (nI 2)) calX10_isWithin stX10_isWithin lX10_113 dX10_ends_18 (by decide) (by simp [Value.category]) rfl (Nat.le_refl _) (Nat.le_refl _) (fun zz gi' gl' gr' ⟨hz, q1, q2, q3⟩ => ?_)
    rw [hz, q1, q2, q3]
    clear hz q1 q2 q3
    refine zA_if_neB 26 dX10_ends_21 (by decide) (fun g1 => ?_) (fun g1 => ?_)
    · obtain ⟨n, hn, rfl⟩ := zwi_nat g0 (by omega)
      obtain ⟨k, hk, rfl⟩ := zwi_nat g1 (by omega)
      have hzn : zi (nI n) = n := zi_nI (by omega)
      have hzk : zi (nI k) = k := zi_nI (by omega)
      rw [hzn, hzk]
      refine zA_aload_0 dX10_ends_26 ?_
      refine zA_getR sh_0 fX10_57 dX10_ends_27 rfl (rt_0_7 _) ?_
      refine zA_iload_1 dX10_ends_30 ?_
      refine zA_cVv (ct_settle g gi gl r (n := n) (by omega) (fun i hi => hnt i (by omega))) calX5_settle stX5_settle lX10_258 dX10_ends_31 (by decide) (by simp [Value.category]) rfl (Nat.le_refl _) (Nat.le_refl _) sh_51 rfl (fun gi' gl' gr' ⟨q1, q2, q3⟩ => ?_)
      rw [q1, q2, q3]
      clear q1 q2 q3
      have hs : ∀ a, a ≠ 56 → fSettle gi n a = gi a := fun a ha => fSettle_nq gi n ha
      have hR2 : zRs 27 W Pn E K (fSettle gi n) := by
        obtain ⟨a1, a2, a3, a4, a5, a6, a7, a8, a9, a10, a11, a12, a13⟩ := id hRs
        refine ⟨by rw [hs 19 (by decide)]; exact a1, a2, by rw [hs 19 (by decide)]; exact a3, a4, by rw [hs 27 (by decide)]; exact a5, a6, ?_, by rw [hs 27 (by decide)]; exact a8, a9, ?_, fun p hp => by rw [hs (23 + p) (by omega)]; exact a11 p hp, fun v hv => by rw [hs 20 (by decide)]; exact a12 v hv, ?_⟩
        · rw [hs (27 + 1) (by decide), hs (27 + 2) (by decide), hs (27 + 3) (by decide), hs (27 + 4) (by decide)]; exact a7
        · rw [hs (27 + 5) (by decide), hs (27 + 6) (by decide), hs (27 + 7) (by decide)]; exact a10
        · unfold zLaw at a13 ⊢
          rw [hs 37 (by decide), hs 38 (by decide), hs 39 (by decide), hs 40 (by decide)]
          exact a13
      refine zA_aload_0 dX10_ends_34 ?_
      refine zA_getR sh_0 fX10_66 dX10_ends_35 rfl (rt_0_8 _) ?_
      refine zA_aload_0 dX10_ends_38 ?_
      refine zA_getR sh_0 fX10_34 dX10_ends_39 rfl (rt_0_4 _) ?_
      refine zA_iconst (nI 0) dX10_ends_42 ic_0 ?_
      refine zA_cVv (ct_goThroughA g (fSettle gi n) gl r hR2 (nI 0)) calX0_goThrough stX0_goThrough lX10_191 dX10_ends_43 (by decide) (by simp [Value.category]) rfl (Nat.le_refl _) (Nat.le_refl _) sh_57 rfl (fun gi' gl' gr' ⟨q1, q2, q3⟩ => ?_)
      rw [q1, q2, q3]
      clear q1 q2 q3
      have hA := fGo_ag (sh := nI 0) (P := (fSettle gi n, gl)) (by decide) hR2
      have hR3 : zRs 27 W Pn E K (fGo 27 (nI 0) W Pn E K (fSettle gi n, gl)).1 := zRs_ag (by decide) hA hR2
      generalize hX : fGo 27 (nI 0) W Pn E K (fSettle gi n, gl) = X at hA hR3 ⊢
      obtain ⟨k1, k2, k3, k4, k5, k6, k7, k8, k9, k10, k11, k12, k13⟩ := id hR3
      refine zA_iconst (nI 0) dX10_ends_46 ic_0 ?_
      refine zA_istore_3 dX10_ends_47 rfl ?_
      refine zA_iconst (nI 0) dX10_ends_48 ic_0 ?_
      refine zA_istore_4 dX10_ends_49 rfl ?_
      have key : ∀ (m i : Nat) (l5 : Option Value), i + m = E → zB_i x g mX10_ends 6 zSH (fun z gi' gl' gr' => (((nI 0 ≤ nI n ∧ nI n ≤ nI T) ∧ (nI 0 ≤ nI k ∧ nI k ≤ nI 2)) ∧ z = fEnL (X).1 k E ∧ gi' = (X).1 ∧ gl' = (X).2 ∧ gr' = zRT 27) ∨ (¬ ((nI 0 ≤ nI n ∧ nI n ≤ nI T) ∧ (nI 0 ≤ nI k ∧ nI k ≤ nI 2)) ∧ z = -1 ∧ gi' = gi ∧ gl' = gl ∧ gr' = zRT r)) 51 [some (.ref 0), some (.int (nI n)), some (.int (nI k)), some (.int (fEnL X.1 k i)), some (.int (nI i)), l5] [] X.1 X.2 (zRT 27) := by
        intro m
        induction m with
        | zero =>
          intro i l5 hi
          refine zA_iload_4 dX10_ends_51 ?_
          refine zA_aload_0 dX10_ends_53 ?_
          refine zA_getR sh_0 fX10_34 dX10_ends_54 rfl (rt_0_4 _) ?_
          refine zA_getI (v := (nI E)) sh_27 fX10_170 dX10_ends_57 rfl k5 ?_
          refine zA_icmp_geN 134 dX10_ends_60 (by decide) (by omega) (by omega) (fun h => ?_) (fun h => ?_)
          · have e : i = E := by omega
            rw [e]
            refine zA_iload_3 dX10_ends_134 ?_
            exact zB_iret rfl dX10_ends_135 (Or.inl ⟨⟨g0, g1⟩, rfl, rfl, rfl, rfl⟩)
          · exact absurd h (by omega)
        | succ m ih =>
          intro i l5 hi
          refine zA_iload_4 dX10_ends_51 ?_
          refine zA_aload_0 dX10_ends_53 ?_
          refine zA_getR sh_0 fX10_34 dX10_ends_54 rfl (rt_0_4 _) ?_
          refine zA_getI (v := (nI E)) sh_27 fX10_170 dX10_ends_57 rfl k5 ?_
          refine zA_icmp_geN 134 dX10_ends_60 (by decide) (by omega) (by omega) (fun h => ?_) (fun h => ?_)
          · exact absurd h (by omega)
          · obtain ⟨e1, e2, e3, e4⟩ := k7 i h
            have e1l : zi (X.1 28 i) < 4 := e1.2
            have e3l : zi (X.1 30 i) < 8 := e3.2
            refine zA_aload_0 dX10_ends_63 ?_
            refine zA_getR sh_0 fX10_66 dX10_ends_64 rfl (rt_0_8 _) ?_
            refine zA_getR sh_57 fX10_195 dX10_ends_67 rfl (rt_57_4 _) ?_
            refine zA_iconst (nI 0) dX10_ends_70 ic_0 ?_
            refine zA_aald 0 sh_58 dX10_ends_71 rfl (by decide) (by decide) (rt_58_0 _) ?_
            refine zA_iload_4 dX10_ends_72 ?_
            refine zA_iald (v := (X.1 59 i)) i sh_59 dX10_ends_74 rfl (by omega) (by decide) rfl ?_
            refine zA_if_ne 128 dX10_ends_75 (by decide) (fun c => ?_) (fun c => ?_)
            · refine zA_iinc_4 (v := nI (i + 1)) dX10_ends_128 (zn_inc _) rfl ?_
              refine zA_goto 51 dX10_ends_131 (by decide) ?_
              have e9 : fEnL X.1 k (i + 1) = fEnL X.1 k i := by show fEnS X.1 k (fEnL X.1 k i) i = _; exact if_neg c
              have h7 := fun (l5 : Option Value) => ih (i + 1) l5 (by omega)
              rw [e9] at h7
              exact h7 _
            · refine zA_aload_0 dX10_ends_78 ?_
              refine zA_getR sh_0 fX10_34 dX10_ends_79 rfl (rt_0_4 _) ?_
              refine zA_getR sh_27 fX10_261 dX10_ends_82 rfl (rt_27_2 _) ?_
              refine zA_iload_4 dX10_ends_85 ?_
              refine zA_iald (v := (nI (zi (X.1 30 i)))) i sh_30 dX10_ends_87 rfl (by omega) (by decide) e3.1 ?_
              refine zA_istore_5 dX10_ends_88 rfl ?_
              refine zA_iload_3 dX10_ends_90 ?_
              refine zA_aload_0 dX10_ends_91 ?_
              refine zA_getR sh_0 fX10_57 dX10_ends_92 rfl (rt_0_7 _) ?_
              refine zA_iload_5 dX10_ends_95 ?_
              refine zA_aload_0 dX10_ends_97 ?_
              refine zA_getR sh_0 fX10_34 dX10_ends_98 rfl (rt_0_4 _) ?_
              refine zA_getR sh_27 fX10_264 dX10_ends_101 rfl (rt_27_0 _) ?_
              refine zA_iload_4 dX10_ends_104 ?_
              refine zA_iald (v := (nI (zi (X.1 28 i)))) i sh_28 dX10_ends_106 rfl (by omega) (by decide) e1.1 ?_
              refine zA_cVi (ct_known g X.1 X.2 27 e3l e1l) calX5_known stX5_known lX10_267 dX10_ends_107 (by decide) (by simp [Value.category]) rfl (Nat.le_refl _) (Nat.le_refl _) sh_51 rfl (fun zz gi' gl' gr' ⟨hz, q1, q2, q3⟩ => ?_)
              rw [hz, q1, q2, q3]
              clear hz q1 q2 q3
              refine zA_aload_0 dX10_ends_110 ?_
              refine zA_getR sh_0 fX10_20 dX10_ends_111 rfl (rt_0_2 _) ?_
              refine zA_getR sh_3 fX10_127 dX10_ends_114 rfl (rt_3_0 _) ?_
              refine zA_iload_5 dX10_ends_117 ?_
              refine zA_aald (zi (X.1 30 i)) sh_4 dX10_ends_119 rfl (by omega) (by decide) (rtr_fa _ (by omega)) ?_
              refine zA_iconst (nI 1) dX10_ends_120 ic_1 ?_
              refine zA_iald (v := (X.1 (5 + (zi (X.1 30 i))) 1)) 1 (shr_fa (by omega)) dX10_ends_121 rfl (by decide) (by decide) rfl ?_
              refine zA_iload_2 dX10_ends_122 ?_
              refine zA_cSi (ct_endOf g _ _ _ _ _ hk) calX10_endOf stX10_endOf lX10_271 dX10_ends_123 (by decide) (by simp [Value.category]) rfl (Nat.le_refl _) (Nat.le_refl _) (fun zz gi' gl' gr' ⟨hz, q1, q2, q3⟩ => ?_)
              rw [hz, q1, q2, q3]
              clear hz q1 q2 q3
              refine zA_iadd dX10_ends_126 ?_
              refine zA_istore_3 dX10_ends_127 rfl ?_
              refine zA_iinc_4 (v := nI (i + 1)) dX10_ends_128 (zn_inc _) rfl ?_
              refine zA_goto 51 dX10_ends_131 (by decide) ?_
              have e9 : fEnL X.1 k (i + 1) = fEnL X.1 k i + fEnd (X.1 56 (zi (X.1 30 i) * 4 + zi (X.1 28 i))) (X.1 (5 + zi (X.1 30 i)) 1) k := by show fEnS X.1 k (fEnL X.1 k i) i = _; exact if_pos c
              have h7 := fun (l5 : Option Value) => ih (i + 1) l5 (by omega)
              rw [e9] at h7
              exact h7 _
      exact key E 0 none (by omega)
    · refine zA_iconst (-1) dX10_ends_24 ic_m1 ?_
      exact zB_iret rfl dX10_ends_25 (Or.inr ⟨fun q => (g1) q.2, rfl, rfl, rfl, rfl⟩)
