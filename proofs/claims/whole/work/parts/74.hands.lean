theorem zbit_n {x : Int32} {n : Nat} : (x >>> (nI n &&& 31)) &&& nI 1 = 0 ↔ ¬ zbit x n := by
  unfold zbit
  rw [pk_and _ 1 (by decide)]
  have h := Nat.mod_lt (x >>> (nI n &&& 31)).toBitVec.toNat (show 0 < 2 ^ 1 by decide)
  rcases (show (x >>> (nI n &&& 31)).toBitVec.toNat % 2 ^ 1 = 0 ∨ (x >>> (nI n &&& 31)).toBitVec.toNat % 2 ^ 1 = 1 by omega) with e | e <;> rw [e] <;> decide
theorem fHan_no {q n i p a b : Nat} {D : zm_I} (hp : zi (D (q + 6) i) = p) (ha : zi (D 70 p) = a) (hb : zi (D (q + 7) i) = b) (h : ¬ (D (q + 5) i = nI n ∧ D 67 a = D 67 b ∧ ¬ zbit (D 21 a) n ∧ ¬ zbit (D 21 b) n)) : fHanS q n D i = D := by
  unfold fHanS
  rw [hp, ha, hb]
  by_cases h1 : D (q + 5) i = nI n
  · rw [if_pos h1]
    by_cases h2 : zbit (D 21 a) n
    · rw [if_pos h2]
    · rw [if_neg h2]
      by_cases h3 : zbit (D 21 b) n
      · rw [if_pos h3]
      · rw [if_neg h3, if_neg (fun h4 => h ⟨h1, h4, h2, h3⟩)]
  · rw [if_neg h1]
theorem fHan_yes {q n i p a b : Nat} {D : zm_I} (hp : zi (D (q + 6) i) = p) (ha : zi (D 70 p) = a) (hb : zi (D (q + 7) i) = b) (h1 : D (q + 5) i = nI n) (h2 : D 67 a = D 67 b) (h3 : ¬ zbit (D 21 a) n) (h4 : ¬ zbit (D 21 b) n) : fHanS q n D i = zs D 70 p (nI b) := by
  unfold fHanS
  rw [hp, ha, hb, if_pos h1, if_neg h3, if_neg h4, if_pos h2]
theorem zDR_han {W Pn p : Nat} {D X : zm_I} {v : Int32} (h : zDR W Pn D X) : zDR W Pn (zs D 70 p v) (zs X 127 p v) := by
  obtain ⟨d1, d2, d3, d4⟩ := h
  refine ⟨d1, fun p' hp' => ⟨?_, (d2 p' hp').2⟩, d3, d4⟩
  rw [zs_at, zs_at]
  by_cases e : p' = p
  · rw [if_pos ⟨rfl, e⟩, if_pos ⟨rfl, e⟩]
  · rw [if_neg (fun z => e z.2), if_neg (fun z => e z.2)]
    exact (d2 p' hp').1
theorem ct_rHands (g : zm_G) (gi : zm_I) (gl : zm_J) (r : Nat) (C : zm_I) {q W Pn E K n : Nat} (hq : q = 27 ∨ q = 76) (hR : zRs q W Pn E K C) (hd : zRd W Pn C) (hn : n < 4) (hS : zSR q W Pn E K C gi) (hD : zDR W Pn C gi)  : zC_v g yX11_handsOver mX11_handsOver 0 [.ref 87, .int (nI n)] zSH gi gl (zRT r) (fun gi' gl' gr' => zDR W Pn (zit (fHanS q n) C K) gi' ∧ (∀ a, a ≠ 127 → gi' a = gi a) ∧ gl' = gl ∧ gr' = zRT r) := by
  have hW3 := hR.2.1
  have hP4 := hR.2.2.2.1
  have hK12 := hR.2.2.2.2.2.2.2.2.1
  refine zC_v_of [some (.ref 87), some (.int (nI n)), none, none, none, none, none] (by decide) rfl rfl (Nat.le_of_ble_eq_true rfl) (fun x => ?_)
  refine zA_iconst (nI 0) dX11_handsOver_0 ic_0 ?_
  refine zA_istore_2 dX11_handsOver_1 rfl ?_
  have key : ∀ (m i : Nat) (X : zm_I) (l3 l4 l5 l6 : Option Value), i + m = K → (∀ a, a ≠ 127 → X a = gi a) → zDR W Pn (zit (fHanS q n) C i) X → zB_v x g mX11_handsOver 0 zSH (fun gi' gl' gr' => zDR W Pn (zit (fHanS q n) C K) gi' ∧ (∀ a, a ≠ 127 → gi' a = gi a) ∧ gl' = gl ∧ gr' = zRT r) 2 [some (.ref 87), some (.int (nI n)), some (.int (nI i)), l3, l4, l5, l6] [] X gl (zRT r) := by
    intro m
    induction m with
    | zero =>
      intro i X l3 l4 l5 l6 hi hX hDX
      have kK : X 87 20 = nI K := by rw [hX 87 (by decide)]; exact hS.2.2.1
      refine zA_iload_2 dX11_handsOver_2 ?_
      refine zA_aload_0 dX11_handsOver_3 ?_
      refine zA_getI (v := (nI K)) sh_87 fX11_212 dX11_handsOver_4 rfl kK ?_
      refine zA_icmp_geN 127 dX11_handsOver_7 (by decide) (by omega) (by omega) (fun h => ?_) (fun h => ?_)
      · have e9 : i = K := by omega
        subst e9
        exact zB_vret rfl dX11_handsOver_127 (⟨hDX, hX, rfl, rfl⟩)
      · exact absurd h (by omega)
    | succ m ih =>
      intro i X l3 l4 l5 l6 hi hX hDX
      have kK : X 87 20 = nI K := by rw [hX 87 (by decide)]; exact hS.2.2.1
      have hiK : i < K := by omega
      obtain ⟨kA, kd⟩ := zit_han (n := n) hq hR hd i (by omega)
      have kR := zRs_ag hq kA hR
      have hXg : zXg gi X := ⟨fun a h1 h2 => hX a (by omega), fun j _ => by rw [hX 87 (by decide)]⟩
      have kS := zSR_ag hP4 hq kA hXg hS
      have hnx : zit (fHanS q n) C (i + 1) = fHanS q n (zit (fHanS q n) C i) i := rfl
      have ih2 := fun (X' : zm_I) (l3 l4 l5 l6 : Option Value) => ih (i + 1) X' l3 l4 l5 l6 (by omega)
      rw [hnx] at ih2
      generalize (zit (fHanS q n) C i) = D at hDX kA kd kR kS ih2
      clear hnx
      obtain ⟨b1, b2, b3⟩ := kS.2.2.2.2.2.2.2.2.2.1 i hiK
      obtain ⟨_, ⟨u1, u2⟩, u3, u4⟩ := kR.2.2.2.2.2.2.2.2.2.1 i hiK
      generalize hzp : zi (D (q + 6) i) = p at *
      generalize hzb : zi (D (q + 7) i) = b at *
      obtain ⟨u5, u6⟩ := kd.2 p u2
      generalize hza : zi (D 70 p) = a at *
      have c1 := (hDX.2.1 p u2).1
      have c2 := (hDX.1 a u6).1
      have c3 := (hDX.1 b u4).1
      have c4 := (kS.2.2.2.2.2.1 a u6).2
      have c5 := (kS.2.2.2.2.2.1 b u4).2
      refine zA_iload_2 dX11_handsOver_2 ?_
      refine zA_aload_0 dX11_handsOver_3 ?_
      refine zA_getI (v := (nI K)) sh_87 fX11_212 dX11_handsOver_4 rfl kK ?_
      refine zA_icmp_geN 127 dX11_handsOver_7 (by decide) (by omega) (by omega) (fun h => ?_) (fun h => ?_)
      · exact absurd h (by omega)
      · refine zA_aload_0 dX11_handsOver_10 ?_
        refine zA_getR sh_87 fX11_46 dX11_handsOver_11 rfl (rt_87_21 _) ?_
        refine zA_iconst (nI 3) dX11_handsOver_14 ic_3 ?_
        refine zA_iload_2 dX11_handsOver_15 ?_
        refine zA_imulN dX11_handsOver_16 ?_
        refine zA_iald (v := (D (q + 5) i)) (3 * i) sh_100 dX11_handsOver_17 rfl (by omega) (by decide) b1 ?_
        refine zA_iload_1 dX11_handsOver_18 ?_
        refine zA_icmp_eq 25 dX11_handsOver_19 (by decide) (fun h1 => ?_) (fun h1 => ?_)
        · refine zA_aload_0 dX11_handsOver_25 ?_
          refine zA_getR sh_87 fX11_46 dX11_handsOver_26 rfl (rt_87_21 _) ?_
          refine zA_iconst (nI 3) dX11_handsOver_29 ic_3 ?_
          refine zA_iload_2 dX11_handsOver_30 ?_
          refine zA_imulN dX11_handsOver_31 ?_
          refine zA_iconst (nI 1) dX11_handsOver_32 ic_1 ?_
          refine zA_iaddN dX11_handsOver_33 ?_
          refine zA_iald (v := (nI p)) ((3 * i) + 1) sh_100 dX11_handsOver_34 rfl (by omega) (by decide) (b2.trans u1) ?_
          refine zA_istore_3 dX11_handsOver_35 rfl ?_
          refine zA_aload_0 dX11_handsOver_36 ?_
          refine zA_getR sh_87 fX11_46 dX11_handsOver_37 rfl (rt_87_21 _) ?_
          refine zA_iconst (nI 3) dX11_handsOver_40 ic_3 ?_
          refine zA_iload_2 dX11_handsOver_41 ?_
          refine zA_imulN dX11_handsOver_42 ?_
          refine zA_iconst (nI 2) dX11_handsOver_43 ic_2 ?_
          refine zA_iaddN dX11_handsOver_44 ?_
          refine zA_iald (v := (nI b)) ((3 * i) + 2) sh_100 dX11_handsOver_45 rfl (by omega) (by decide) (b3.trans u3) ?_
          refine zA_istore_4 dX11_handsOver_46 rfl ?_
          refine zA_aload_0 dX11_handsOver_48 ?_
          refine zA_getR sh_87 fX11_133 dX11_handsOver_49 rfl (rt_87_72 _) ?_
          refine zA_iload_3 dX11_handsOver_52 ?_
          refine zA_iald (v := (nI a)) p sh_127 dX11_handsOver_53 rfl (by omega) (by decide) (c1.trans u5) ?_
          refine zA_istore_5 dX11_handsOver_54 rfl ?_
          refine zA_aload_0 dX11_handsOver_56 ?_
          refine zA_getR sh_87 fX11_118 dX11_handsOver_57 rfl (rt_87_67 _) ?_
          refine zA_iload_5 dX11_handsOver_60 ?_
          refine zA_iald (v := (D 67 a)) a sh_122 dX11_handsOver_62 rfl (by omega) (by decide) c2 ?_
          refine zA_aload_0 dX11_handsOver_63 ?_
          refine zA_getR sh_87 fX11_118 dX11_handsOver_64 rfl (rt_87_67 _) ?_
          refine zA_iload_4 dX11_handsOver_67 ?_
          refine zA_iald (v := (D 67 b)) b sh_122 dX11_handsOver_69 rfl (by omega) (by decide) c3 ?_
          refine zA_icmp_ne 105 dX11_handsOver_70 (by decide) (fun h2 => ?_) (fun h2 => ?_)
          · refine zA_iconst (nI 0) dX11_handsOver_105 ic_0 ?_
            refine zA_istore_6 dX11_handsOver_106 rfl ?_
            refine zA_iload_6 dX11_handsOver_108 ?_
            refine zA_if_eq 121 dX11_handsOver_110 (by decide) (fun _ => ?_) (fun hh => absurd (by decide) hh)
            refine zA_iinc_2 (v := nI (i + 1)) dX11_handsOver_121 (zn_inc _) rfl ?_
            refine zA_goto 2 dX11_handsOver_124 (by decide) ?_
            refine ih2 X _ _ _ _ hX ?_
            rw [fHan_no hzp hza hzb (fun z => h2 z.2.1)]
            exact hDX
          · refine zA_aload_0 dX11_handsOver_73 ?_
            refine zA_getR sh_87 fX11_34 dX11_handsOver_74 rfl (rt_87_14 _) ?_
            refine zA_iload_5 dX11_handsOver_77 ?_
            refine zA_iald (v := (D 21 a)) a sh_96 dX11_handsOver_79 rfl (by omega) (by decide) c4 ?_
            refine zA_iload_1 dX11_handsOver_80 ?_
            refine zA_ishr dX11_handsOver_81 ?_
            refine zA_iconst (nI 1) dX11_handsOver_82 ic_1 ?_
            refine zA_iand dX11_handsOver_83 ?_
            refine zA_if_ne 105 dX11_handsOver_84 (by decide) (fun h3 => ?_) (fun h3 => ?_)
            · refine zA_iconst (nI 0) dX11_handsOver_105 ic_0 ?_
              refine zA_istore_6 dX11_handsOver_106 rfl ?_
              refine zA_iload_6 dX11_handsOver_108 ?_
              refine zA_if_eq 121 dX11_handsOver_110 (by decide) (fun _ => ?_) (fun hh => absurd (by decide) hh)
              refine zA_iinc_2 (v := nI (i + 1)) dX11_handsOver_121 (zn_inc _) rfl ?_
              refine zA_goto 2 dX11_handsOver_124 (by decide) ?_
              refine ih2 X _ _ _ _ hX ?_
              rw [fHan_no hzp hza hzb (fun z => h3 (zbit_n.mpr z.2.2.1))]
              exact hDX
            · refine zA_aload_0 dX11_handsOver_87 ?_
              refine zA_getR sh_87 fX11_34 dX11_handsOver_88 rfl (rt_87_14 _) ?_
              refine zA_iload_4 dX11_handsOver_91 ?_
              refine zA_iald (v := (D 21 b)) b sh_96 dX11_handsOver_93 rfl (by omega) (by decide) c5 ?_
              refine zA_iload_1 dX11_handsOver_94 ?_
              refine zA_ishr dX11_handsOver_95 ?_
              refine zA_iconst (nI 1) dX11_handsOver_96 ic_1 ?_
              refine zA_iand dX11_handsOver_97 ?_
              refine zA_if_ne 105 dX11_handsOver_98 (by decide) (fun h4 => ?_) (fun h4 => ?_)
              · refine zA_iconst (nI 0) dX11_handsOver_105 ic_0 ?_
                refine zA_istore_6 dX11_handsOver_106 rfl ?_
                refine zA_iload_6 dX11_handsOver_108 ?_
                refine zA_if_eq 121 dX11_handsOver_110 (by decide) (fun _ => ?_) (fun hh => absurd (by decide) hh)
                refine zA_iinc_2 (v := nI (i + 1)) dX11_handsOver_121 (zn_inc _) rfl ?_
                refine zA_goto 2 dX11_handsOver_124 (by decide) ?_
                refine ih2 X _ _ _ _ hX ?_
                rw [fHan_no hzp hza hzb (fun z => h4 (zbit_n.mpr z.2.2.2))]
                exact hDX
              · refine zA_iconst (nI 1) dX11_handsOver_101 ic_1 ?_
                refine zA_goto 106 dX11_handsOver_102 (by decide) ?_
                refine zA_istore_6 dX11_handsOver_106 rfl ?_
                refine zA_iload_6 dX11_handsOver_108 ?_
                refine zA_if_eq 121 dX11_handsOver_110 (by decide) (fun hh => absurd hh (by decide)) (fun _ => ?_)
                refine zA_aload_0 dX11_handsOver_113 ?_
                refine zA_getR sh_87 fX11_133 dX11_handsOver_114 rfl (rt_87_72 _) ?_
                refine zA_iload_3 dX11_handsOver_117 ?_
                refine zA_iload_4 dX11_handsOver_118 ?_
                refine zS_iast p sh_127 dX11_handsOver_120 rfl (by omega) (by decide) ?_
                refine zA_iinc_2 (v := nI (i + 1)) dX11_handsOver_121 (zn_inc _) rfl ?_
                refine zA_goto 2 dX11_handsOver_124 (by decide) ?_
                refine ih2 _ _ _ _ _ (fun a ha => (zs_nq ha).trans (hX a ha)) ?_
                rw [fHan_yes hzp hza hzb h1 h2 (zbit_n.mp h3) (zbit_n.mp h4)]
                exact zDR_han hDX
        · refine zA_goto 121 dX11_handsOver_22 (by decide) ?_
          refine zA_iinc_2 (v := nI (i + 1)) dX11_handsOver_121 (zn_inc _) rfl ?_
          refine zA_goto 2 dX11_handsOver_124 (by decide) ?_
          refine ih2 X _ _ _ _ hX ?_
          rw [fHan_no hzp hza hzb (fun z => h1 z.1)]
          exact hDX
  exact key K 0 gi none none none none (by omega) (fun _ _ => rfl) hD
theorem late_ok {x y : Nat} (hx : x < 2 ^ 30) (hy : y < 2 ^ 30) : (x ≤ y → zmax (nI x - nI y) (nI 0) = nI 0) ∧ (y < x → zmax (nI x - nI y) (nI 0) = nI (x - y)) := by
  have h := pk_sub_toInt hx hy
  have h0 : (nI 0).toInt = 0 := by decide
  unfold zmax
  refine ⟨fun q => ?_, fun q => ?_⟩
  · by_cases e : nI x - nI y < nI 0
    · rw [if_pos e]
    · rw [if_neg e]
      have e2 : ¬ (nI x - nI y).toInt < (nI 0).toInt := fun z => e (Int32.lt_iff_toInt_lt.mpr z)
      exact Int32.toInt_inj.mp (by rw [h, h0] at *; omega)
  · rw [if_neg (fun z => by have := Int32.lt_iff_toInt_lt.mp z; omega), pk_sub (by omega)]
theorem ct_rLate (g : zm_G) (gi : zm_I) (gl : zm_J) (r : Nat) (D : zm_I) {p Pn y : Nat} (hp : p < Pn) (hP4 : Pn ≤ 4) (hy : y < 5) (h5 : gi 97 (7 * p + 5) = nI y) (h5c : D (23 + p) 5 = nI y) (h71 : gi 132 p = D 71 p) (hr : D 71 p = -1 ∨ zx (D 71 p) 4)  : zC_i g yX11_lateOf mX11_lateOf 0 [.ref 87, .int (nI p)] zSH gi gl (zRT r) (fun z gi' gl' gr' => z = fLate D p ∧ gi' = gi ∧ gl' = gl ∧ gr' = zRT r) := by
  refine zC_i_of [some (.ref 87), some (.int (nI p)), none, none] (by decide) rfl rfl (Nat.le_of_ble_eq_true rfl) (fun x => ?_)
  rcases hr with hr | ⟨hr, hr4⟩
  · have eF : fLate D p = zmax (nI 4 - nI y) (nI 0) := by unfold fLate; rw [if_pos hr, h5c]
    obtain ⟨l1, l2⟩ := late_ok (x := 4) (y := y) (by decide) (by omega)
    refine zA_aload_0 dX11_lateOf_0 ?_
    refine zA_getR sh_87 fX11_37 dX11_lateOf_1 rfl (rt_87_16 _) ?_
    refine zA_bipush (nI 7) dX11_lateOf_4 bc_7 ?_
    refine zA_iload_1 dX11_lateOf_6 ?_
    refine zA_imulN dX11_lateOf_7 ?_
    refine zA_iconst (nI 5) dX11_lateOf_8 ic_5 ?_
    refine zA_iaddN dX11_lateOf_9 ?_
    refine zA_iald (v := (nI y)) ((7 * p) + 5) sh_97 dX11_lateOf_10 rfl (by omega) (by decide) h5 ?_
    refine zA_istore_2 dX11_lateOf_11 rfl ?_
    refine zA_aload_0 dX11_lateOf_12 ?_
    refine zA_getR sh_87 fX11_148 dX11_lateOf_13 rfl (rt_87_77 _) ?_
    refine zA_iload_1 dX11_lateOf_16 ?_
    refine zA_iald (v := ((-1))) p sh_132 dX11_lateOf_17 rfl (by omega) (by decide) (h71.trans hr) ?_
    refine zA_if_ge 25 dX11_lateOf_18 (by decide) (fun hh => absurd hh (by decide)) (fun _ => ?_)
    refine zA_iconst (nI 4) dX11_lateOf_21 ic_4 ?_
    refine zA_goto 31 dX11_lateOf_22 (by decide) ?_
    refine zA_istore_3 dX11_lateOf_31 rfl ?_
    refine zA_iload_3 dX11_lateOf_32 ?_
    refine zA_iload_2 dX11_lateOf_33 ?_
    refine zA_icmp_leN 43 dX11_lateOf_34 (by decide) (by omega) (by omega) (fun q2 => ?_) (fun q2 => ?_)
    · refine zA_iconst (nI 0) dX11_lateOf_43 ic_0 ?_
      exact zB_iret rfl dX11_lateOf_44 (⟨by rw [eF, l1 q2], rfl, rfl, rfl⟩)
    · refine zA_iload_3 dX11_lateOf_37 ?_
      refine zA_iload_2 dX11_lateOf_38 ?_
      refine zA_isubN dX11_lateOf_39 (by omega) ?_
      refine zA_goto 44 dX11_lateOf_40 (by decide) ?_
      exact zB_iret rfl dX11_lateOf_44 (⟨by rw [eF, l2 q2], rfl, rfl, rfl⟩)
  · generalize zi (D 71 p) = x at *
    have eF : fLate D p = zmax (nI x - nI y) (nI 0) := by
      unfold fLate
      rw [if_neg (by rw [hr]; exact fun z => absurd (by rw [z]; decide) (nI_pos (n := x) (by omega))), hr, h5c]
    obtain ⟨l1, l2⟩ := late_ok (x := x) (y := y) (by omega) (by omega)
    refine zA_aload_0 dX11_lateOf_0 ?_
    refine zA_getR sh_87 fX11_37 dX11_lateOf_1 rfl (rt_87_16 _) ?_
    refine zA_bipush (nI 7) dX11_lateOf_4 bc_7 ?_
    refine zA_iload_1 dX11_lateOf_6 ?_
    refine zA_imulN dX11_lateOf_7 ?_
    refine zA_iconst (nI 5) dX11_lateOf_8 ic_5 ?_
    refine zA_iaddN dX11_lateOf_9 ?_
    refine zA_iald (v := (nI y)) ((7 * p) + 5) sh_97 dX11_lateOf_10 rfl (by omega) (by decide) h5 ?_
    refine zA_istore_2 dX11_lateOf_11 rfl ?_
    refine zA_aload_0 dX11_lateOf_12 ?_
    refine zA_getR sh_87 fX11_148 dX11_lateOf_13 rfl (rt_87_77 _) ?_
    refine zA_iload_1 dX11_lateOf_16 ?_
    refine zA_iald (v := (nI x)) p sh_132 dX11_lateOf_17 rfl (by omega) (by decide) (h71.trans hr) ?_
    refine zA_if_ge 25 dX11_lateOf_18 (by decide) (fun q1 => ?_) (fun q1 => ?_)
    · refine zA_aload_0 dX11_lateOf_25 ?_
      refine zA_getR sh_87 fX11_148 dX11_lateOf_26 rfl (rt_87_77 _) ?_
      refine zA_iload_1 dX11_lateOf_29 ?_
      refine zA_iald (v := (nI x)) p sh_132 dX11_lateOf_30 rfl (by omega) (by decide) (h71.trans hr) ?_
      refine zA_istore_3 dX11_lateOf_31 rfl ?_
      refine zA_iload_3 dX11_lateOf_32 ?_
      refine zA_iload_2 dX11_lateOf_33 ?_
      refine zA_icmp_leN 43 dX11_lateOf_34 (by decide) (by omega) (by omega) (fun q2 => ?_) (fun q2 => ?_)
      · refine zA_iconst (nI 0) dX11_lateOf_43 ic_0 ?_
        exact zB_iret rfl dX11_lateOf_44 (⟨by rw [eF, l1 q2], rfl, rfl, rfl⟩)
      · refine zA_iload_3 dX11_lateOf_37 ?_
        refine zA_iload_2 dX11_lateOf_38 ?_
        refine zA_isubN dX11_lateOf_39 (by omega) ?_
        refine zA_goto 44 dX11_lateOf_40 (by decide) ?_
        exact zB_iret rfl dX11_lateOf_44 (⟨by rw [eF, l2 q2], rfl, rfl, rfl⟩)
    · exact absurd (nI_pos' (by omega)) q1
