def fRoadS (a b : Nat) (mi pb : Int32) (M : zm_I) (i : Nat) : zm_I := if nI i &&& pb = 0 then va_up M (14 + i) (fShO a b mi 8 (M (14 + i))) else M
def fRoadL (a b : Nat) (mi pb : Int32) (M : zm_I) : Nat → zm_I
  | 0 => M
  | i + 1 => fRoadS a b mi pb (fRoadL a b mi pb M i) i
theorem fRoadL_nq (a b : Nat) (mi pb : Int32) (M : zm_I) {k : Nat} : ∀ i, (k < 14 ∨ 14 + i ≤ k) → fRoadL a b mi pb M i k = M k
  | 0, _ => rfl
  | i + 1, h => by
    show fRoadS a b mi pb (fRoadL a b mi pb M i) i k = M k
    unfold fRoadS
    split
    · rw [zm_une (by omega)]; exact fRoadL_nq a b mi pb M i (by omega)
    · exact fRoadL_nq a b mi pb M i (by omega)
def fAddRoad (gi : zm_I) (Pn Rd a b : Nat) (mi sh : Int32) : zm_I :=
  if sh ≤ 0 then zs (fRoadL a b mi (nI 0) gi 4) 3 4 (nI (Rd + 1))
  else zs (fRoadL a b mi (nI 1 <<< (nI Pn &&& 31)) (zs (zs gi 18 Pn sh) 3 5 (nI (Pn + 1))) 4) 3 4 (nI (Rd + 1))
theorem ct_addRoad (g : zm_G) (gi : zm_I) (gl : zm_J) (r : Nat) {Pn Rd a b : Nat} (hP : gi 3 5 = nI Pn) (hR : gi 3 4 = nI Rd) (ha : a < 8) (hb : b < 8) (mi sh : Int32) (hp : sh ≤ 0 ∨ Pn < 2)  : zC_i g yX3_addRoad mX3_addRoad 2 [.ref 3, .int (nI a), .int (nI b), .int mi, .int sh] zSH gi gl (zRT r) (fun z gi' gl' gr' => z = nI Rd ∧ gi' = fAddRoad gi Pn Rd a b mi sh ∧ gl' = gl ∧ gr' = zRT r) := by
  refine zC_i_of [some (.ref 3), some (.int (nI a)), some (.int (nI b)), some (.int mi), some (.int sh), none, none] (by decide) rfl rfl (Nat.le_of_ble_eq_true rfl) (fun x => ?_)
  refine zA_iconst (nI 0) dX3_addRoad_0 ic_0 ?_
  refine zA_istore_5 dX3_addRoad_1 rfl ?_
  refine zA_iload_4 dX3_addRoad_3 ?_
  have join : ∀ (pb : Int32) (M : zm_I), M 3 4 = nI Rd → zs (fRoadL a b mi pb M 4) 3 4 (nI (Rd + 1)) = fAddRoad gi Pn Rd a b mi sh → zB_i x g mX3_addRoad 2 zSH (fun z gi' gl' gr' => z = nI Rd ∧ gi' = fAddRoad gi Pn Rd a b mi sh ∧ gl' = gl ∧ gr' = zRT r) 37 [some (.ref 3), some (.int (nI a)), some (.int (nI b)), some (.int mi), some (.int sh), some (.int pb), none] [] M gl (zRT r) := by
    intro pb M hM hF
    refine zA_iconst (nI 0) dX3_addRoad_37 ic_0 ?_
    refine zA_istore_6 dX3_addRoad_38 rfl ?_
    have key : ∀ (m i : Nat), i + m = 4 → zB_i x g mX3_addRoad 2 zSH (fun z gi' gl' gr' => z = nI Rd ∧ gi' = fAddRoad gi Pn Rd a b mi sh ∧ gl' = gl ∧ gr' = zRT r) 40 [some (.ref 3), some (.int (nI a)), some (.int (nI b)), some (.int mi), some (.int sh), some (.int pb), some (.int (nI i))] [] (fRoadL a b mi pb M i) gl (zRT r) := by
      intro m
      induction m with
      | zero =>
        intro i hi_i
        have e : i = 4 := by omega
        subst e
        refine zA_iload_6 dX3_addRoad_40 ?_
        refine zA_iconst (nI 4) dX3_addRoad_42 ic_4 ?_
        refine zA_icmp_geN 73 dX3_addRoad_43 (by decide) (by decide) (by decide) (fun _ => ?_) (fun hh => absurd hh (by decide))
        refine zA_aload_0 dX3_addRoad_73 ?_
        refine zA_dup dX3_addRoad_74 rfl ?_
        refine zA_getI (v := (nI Rd)) sh_3 fX3_45 dX3_addRoad_75 rfl ((congrFun (fRoadL_nq a b mi pb M 4 (by omega)) 4).trans hM) ?_
        refine zA_iconst (nI 1) dX3_addRoad_78 ic_1 ?_
        refine zA_iaddN dX3_addRoad_79 ?_
        refine zS_putI sh_3 fX3_45 dX3_addRoad_80 rfl rfl ?_
        refine zA_aload_0 dX3_addRoad_83 ?_
        refine zA_getI (v := (nI (Rd + 1))) sh_3 fX3_45 dX3_addRoad_84 rfl rfl ?_
        refine zA_iconst (nI 1) dX3_addRoad_87 ic_1 ?_
        refine zA_isubN dX3_addRoad_88 (by omega) ?_
        exact zB_iret rfl dX3_addRoad_89 (⟨rfl, hF, rfl, rfl⟩)
      | succ m ih_i =>
        intro i hi_i
        refine zA_iload_6 dX3_addRoad_40 ?_
        refine zA_iconst (nI 4) dX3_addRoad_42 ic_4 ?_
        refine zA_icmp_geN 73 dX3_addRoad_43 (by decide) (by omega) (by omega) (fun h => ?_) (fun h => ?_)
        · exact absurd h (by omega)
        · refine zA_iload_6 dX3_addRoad_46 ?_
          refine zA_iload_5 dX3_addRoad_48 ?_
          refine zA_iand dX3_addRoad_50 ?_
          refine zA_if_ne 67 dX3_addRoad_51 (by decide) (fun h1 => ?_) (fun h1 => ?_)
          · refine zA_iinc_6 (v := nI (i + 1)) dX3_addRoad_67 (zn_inc _) rfl ?_
            refine zA_goto 40 dX3_addRoad_70 (by decide) ?_
            refine zA_gi (gi2 := fRoadL a b mi pb M (i + 1)) (if_neg h1).symm ?_
            exact ih_i (i + 1) (by omega)
          · refine zA_aload_0 dX3_addRoad_54 ?_
            refine zA_getR sh_3 fX3_16 dX3_addRoad_55 rfl (rt_3_1 _) ?_
            refine zA_iload_6 dX3_addRoad_58 ?_
            refine zA_aald i sh_13 dX3_addRoad_60 rfl (by omega) (by decide) (rtr_fe _ (by omega)) ?_
            refine zA_iload_1 dX3_addRoad_61 ?_
            refine zA_iload_2 dX3_addRoad_62 ?_
            refine zA_iload_3 dX3_addRoad_63 ?_
            refine zA_cSv (ct_shorten g (fRoadL a b mi pb M i) gl r (q := 14 + i) (shr_fe (by omega)) ha hb mi) calX3_shorten stX3_shorten lX3_41 dX3_addRoad_64 (by decide) (by simp [Value.category]) rfl (Nat.le_refl _) (Nat.le_refl _) (fun gi' gl' gr' ⟨e1, e2, e3⟩ => ?_)
            rw [e1, e2, e3]
            clear e1 e2 e3
            refine zA_iinc_6 (v := nI (i + 1)) dX3_addRoad_67 (zn_inc _) rfl ?_
            refine zA_goto 40 dX3_addRoad_70 (by decide) ?_
            refine zA_gi (gi2 := fRoadL a b mi pb M (i + 1)) (if_pos h1).symm ?_
            exact ih_i (i + 1) (by omega)
    exact key 4 0 (by omega)
  refine zA_if_le 37 dX3_addRoad_5 (by decide) (fun h => ?_) (fun h => ?_)
  · exact join (nI 0) gi hR (if_pos h).symm
  · have hq : Pn < 2 := by rcases hp with q | q
                           · exact absurd q h
                           · exact q
    refine zA_iconst (nI 1) dX3_addRoad_8 ic_1 ?_
    refine zA_aload_0 dX3_addRoad_9 ?_
    refine zA_getI (v := (nI Pn)) sh_3 fX3_38 dX3_addRoad_10 rfl hP ?_
    refine zA_ishl dX3_addRoad_13 ?_
    refine zA_istore_5 dX3_addRoad_14 rfl ?_
    refine zA_aload_0 dX3_addRoad_16 ?_
    refine zA_getR sh_3 fX3_19 dX3_addRoad_17 rfl (rt_3_2 _) ?_
    refine zA_aload_0 dX3_addRoad_20 ?_
    refine zA_getI (v := (nI Pn)) sh_3 fX3_38 dX3_addRoad_21 rfl hP ?_
    refine zA_iload_4 dX3_addRoad_24 ?_
    refine zS_iast Pn sh_18 dX3_addRoad_26 rfl (by omega) (by decide) ?_
    refine zA_aload_0 dX3_addRoad_27 ?_
    refine zA_dup dX3_addRoad_28 rfl ?_
    refine zA_getI (v := (nI Pn)) sh_3 fX3_38 dX3_addRoad_29 rfl hP ?_
    refine zA_iconst (nI 1) dX3_addRoad_32 ic_1 ?_
    refine zA_iaddN dX3_addRoad_33 ?_
    refine zS_putI sh_3 fX3_38 dX3_addRoad_34 rfl rfl ?_
    exact join _ _ hR (if_neg h).symm
def fAll (t : Int32) : Int32 := (((nI 0 ||| (t <<< (nI (2 * 0) &&& 31))) ||| (t <<< (nI (2 * (0 + 1)) &&& 31))) ||| (t <<< (nI (2 * (0 + 1 + 1)) &&& 31))) ||| (t <<< (nI (2 * (0 + 1 + 1 + 1)) &&& 31))
def fTon (P : Int32) : Int32 := (nI 1 <<< (P &&& 31)) - nI 1
theorem ct_canBeShut (g : zm_G) (gi : zm_I) (gl : zm_J) (r : Nat) (s : Int32)  : zC_i g yX3_canBeShut mX3_canBeShut 0 [.ref 3, .int s] zSH gi gl (zRT r) (fun z gi' gl' gr' => z = zb (s &&& (fAll (fTon (gi 3 5)) ^^^ (-1)) = 0) ∧ gi' = gi ∧ gl' = gl ∧ gr' = zRT r) := by
  refine zC_i_of [some (.ref 3), some (.int s), none, none, none] (by decide) rfl rfl (Nat.le_of_ble_eq_true rfl) (fun x => ?_)
  refine zA_iconst (nI 1) dX3_canBeShut_0 ic_1 ?_
  refine zA_aload_0 dX3_canBeShut_1 ?_
  refine zA_getI (v := (gi 3 5)) sh_3 fX3_38 dX3_canBeShut_2 rfl rfl ?_
  refine zA_ishl dX3_canBeShut_5 ?_
  refine zA_iconst (nI 1) dX3_canBeShut_6 ic_1 ?_
  refine zA_isub dX3_canBeShut_7 ?_
  refine zA_istore_2 dX3_canBeShut_8 rfl ?_
  refine zA_iconst (nI 0) dX3_canBeShut_9 ic_0 ?_
  refine zA_istore_3 dX3_canBeShut_10 rfl ?_
  refine zA_iconst (nI 0) dX3_canBeShut_11 ic_0 ?_
  refine zA_istore_4 dX3_canBeShut_12 rfl ?_
  refine zA_iload_4 dX3_canBeShut_14 ?_
  refine zA_iconst (nI 4) dX3_canBeShut_16 ic_4 ?_
  refine zA_icmp_geN 35 dX3_canBeShut_17 (by decide) (by decide) (by decide) (fun hh => absurd hh (by decide)) (fun _ => ?_)
  refine zA_iload_3 dX3_canBeShut_20 ?_
  refine zA_iload_2 dX3_canBeShut_21 ?_
  refine zA_iconst (nI 2) dX3_canBeShut_22 ic_2 ?_
  refine zA_iload_4 dX3_canBeShut_23 ?_
  refine zA_imulN dX3_canBeShut_25 ?_
  refine zA_ishl dX3_canBeShut_26 ?_
  refine zA_ior dX3_canBeShut_27 ?_
  refine zA_istore_3 dX3_canBeShut_28 rfl ?_
  refine zA_iinc_4 (v := nI (0 + 1)) dX3_canBeShut_29 (zn_inc _) rfl ?_
  refine zA_goto 14 dX3_canBeShut_32 (by decide) ?_
  refine zA_iload_4 dX3_canBeShut_14 ?_
  refine zA_iconst (nI 4) dX3_canBeShut_16 ic_4 ?_
  refine zA_icmp_geN 35 dX3_canBeShut_17 (by decide) (by decide) (by decide) (fun hh => absurd hh (by decide)) (fun _ => ?_)
  refine zA_iload_3 dX3_canBeShut_20 ?_
  refine zA_iload_2 dX3_canBeShut_21 ?_
  refine zA_iconst (nI 2) dX3_canBeShut_22 ic_2 ?_
  refine zA_iload_4 dX3_canBeShut_23 ?_
  refine zA_imulN dX3_canBeShut_25 ?_
  refine zA_ishl dX3_canBeShut_26 ?_
  refine zA_ior dX3_canBeShut_27 ?_
  refine zA_istore_3 dX3_canBeShut_28 rfl ?_
  refine zA_iinc_4 (v := nI (1 + 1)) dX3_canBeShut_29 (zn_inc _) rfl ?_
  refine zA_goto 14 dX3_canBeShut_32 (by decide) ?_
  refine zA_iload_4 dX3_canBeShut_14 ?_
  refine zA_iconst (nI 4) dX3_canBeShut_16 ic_4 ?_
  refine zA_icmp_geN 35 dX3_canBeShut_17 (by decide) (by decide) (by decide) (fun hh => absurd hh (by decide)) (fun _ => ?_)
  refine zA_iload_3 dX3_canBeShut_20 ?_
  refine zA_iload_2 dX3_canBeShut_21 ?_
  refine zA_iconst (nI 2) dX3_canBeShut_22 ic_2 ?_
  refine zA_iload_4 dX3_canBeShut_23 ?_
  refine zA_imulN dX3_canBeShut_25 ?_
  refine zA_ishl dX3_canBeShut_26 ?_
  refine zA_ior dX3_canBeShut_27 ?_
  refine zA_istore_3 dX3_canBeShut_28 rfl ?_
  refine zA_iinc_4 (v := nI (2 + 1)) dX3_canBeShut_29 (zn_inc _) rfl ?_
  refine zA_goto 14 dX3_canBeShut_32 (by decide) ?_
  refine zA_iload_4 dX3_canBeShut_14 ?_
  refine zA_iconst (nI 4) dX3_canBeShut_16 ic_4 ?_
  refine zA_icmp_geN 35 dX3_canBeShut_17 (by decide) (by decide) (by decide) (fun hh => absurd hh (by decide)) (fun _ => ?_)
  refine zA_iload_3 dX3_canBeShut_20 ?_
  refine zA_iload_2 dX3_canBeShut_21 ?_
  refine zA_iconst (nI 2) dX3_canBeShut_22 ic_2 ?_
  refine zA_iload_4 dX3_canBeShut_23 ?_
  refine zA_imulN dX3_canBeShut_25 ?_
  refine zA_ishl dX3_canBeShut_26 ?_
  refine zA_ior dX3_canBeShut_27 ?_
  refine zA_istore_3 dX3_canBeShut_28 rfl ?_
  refine zA_iinc_4 (v := nI (3 + 1)) dX3_canBeShut_29 (zn_inc _) rfl ?_
  refine zA_goto 14 dX3_canBeShut_32 (by decide) ?_
  refine zA_iload_4 dX3_canBeShut_14 ?_
  refine zA_iconst (nI 4) dX3_canBeShut_16 ic_4 ?_
  refine zA_icmp_geN 35 dX3_canBeShut_17 (by decide) (by decide) (by decide) (fun _ => ?_) (fun hh => absurd hh (by decide))
  refine zA_iload_1 dX3_canBeShut_35 ?_
  refine zA_iload_3 dX3_canBeShut_36 ?_
  refine zA_iconst (-1) dX3_canBeShut_37 ic_m1 ?_
  refine zA_ixor dX3_canBeShut_38 ?_
  refine zA_iand dX3_canBeShut_39 ?_
  refine zA_if_ne 47 dX3_canBeShut_40 (by decide) (fun h => ?_) (fun h => ?_)
  · refine zA_iconst (nI 0) dX3_canBeShut_47 ic_0 ?_
    exact zB_zret rfl dX3_canBeShut_48 (by decide) (⟨(zb_f h).symm, rfl, rfl, rfl⟩)
  · refine zA_iconst (nI 1) dX3_canBeShut_43 ic_1 ?_
    refine zA_goto 48 dX3_canBeShut_44 (by decide) ?_
    exact zB_zret rfl dX3_canBeShut_48 (by decide) (⟨(zb_t h).symm, rfl, rfl, rfl⟩)
def fChS (gi : zm_I) (s : Int32) (n k : Nat) (c : Int64) : Int64 := c * (if zbit s (2 * n + k) then (gi 18 k).toInt64 else (nI 16 - gi 18 k).toInt64)
def fChI (gi : zm_I) (s : Int32) (n : Nat) : Nat → Int64 → Int64
  | 0, c => c
  | k + 1, c => fChS gi s n k (fChI gi s n k c)
def fChO (gi : zm_I) (s : Int32) (P : Nat) : Nat → Int64 → Int64
  | 0, c => c
  | n + 1, c => fChI gi s n P (fChO gi s P n c)
theorem ct_chanceOf (g : zm_G) (gi : zm_I) (gl : zm_J) (r : Nat) {P : Nat} (hP : gi 3 5 = nI P) (hp : P ≤ 2) (s : Int32)  : zC_l g yX3_chanceOf mX3_chanceOf 0 [.ref 3, .int s] zSH gi gl (zRT r) (fun z gi' gl' gr' => z = fChO gi s P 4 1 ∧ gi' = gi ∧ gl' = gl ∧ gr' = zRT r) := by
  refine zC_l_of [some (.ref 3), some (.int s), none, none, none, none, none] (by decide) rfl rfl (Nat.le_of_ble_eq_true rfl) (fun x => ?_)
  refine zA_lconst 1 dX3_chanceOf_0 (by decide) ?_
  refine zA_lstore_2 dX3_chanceOf_1 rfl ?_
  refine zA_iconst (nI 0) dX3_chanceOf_2 ic_0 ?_
  refine zA_istore_4 dX3_chanceOf_3 rfl ?_
  have key : ∀ (m n : Nat) (l5 l6 : Option Value), zm_c1 l5 = true → n + m = 4 → zB_l x g mX3_chanceOf 0 zSH (fun z gi' gl' gr' => z = fChO gi s P 4 1 ∧ gi' = gi ∧ gl' = gl ∧ gr' = zRT r) 5 [some (.ref 3), some (.int s), some (.long (fChO gi s P n 1)), none, some (.int (nI n)), l5, l6] [] gi gl (zRT r) := by
    intro m
    induction m with
    | zero =>
      intro n l5 l6 c5 hi
      refine zA_iload_4 dX3_chanceOf_5 ?_
      refine zA_iconst (nI 4) dX3_chanceOf_7 ic_4 ?_
      refine zA_icmp_geN 87 dX3_chanceOf_8 (by decide) (by omega) (by omega) (fun h => ?_) (fun h => ?_)
      · have e : n = 4 := by omega
        subst e
        refine zA_lload_2 dX3_chanceOf_87 ?_
        exact zB_lret rfl dX3_chanceOf_88 (⟨rfl, rfl, rfl, rfl⟩)
      · exact absurd h (by omega)
    | succ m ih =>
      intro n l5 l6 c5 hi
      refine zA_iload_4 dX3_chanceOf_5 ?_
      refine zA_iconst (nI 4) dX3_chanceOf_7 ic_4 ?_
      refine zA_icmp_geN 87 dX3_chanceOf_8 (by decide) (by omega) (by omega) (fun h => ?_) (fun h => ?_)
      · exact absurd h (by omega)
      · refine zA_iconst (nI 0) dX3_chanceOf_11 ic_0 ?_
        refine zA_istore_5 dX3_chanceOf_12 rfl ?_
        have inn : ∀ (q k : Nat) (l6 : Option Value), k + q = P → zB_l x g mX3_chanceOf 0 zSH (fun z gi' gl' gr' => z = fChO gi s P 4 1 ∧ gi' = gi ∧ gl' = gl ∧ gr' = zRT r) 14 [some (.ref 3), some (.int s), some (.long (fChI gi s n k (fChO gi s P n 1))), none, some (.int (nI n)), some (.int (nI k)), l6] [] gi gl (zRT r) := by
          intro q
          induction q with
          | zero =>
            intro k l6 hk
            refine zA_iload_5 dX3_chanceOf_14 ?_
            refine zA_aload_0 dX3_chanceOf_16 ?_
            refine zA_getI (v := (nI P)) sh_3 fX3_38 dX3_chanceOf_17 rfl hP ?_
            refine zA_icmp_geN 81 dX3_chanceOf_20 (by decide) (by omega) (by omega) (fun h9 => ?_) (fun h9 => ?_)
            · have e : k = P := by omega
              subst e
              refine zA_iinc_4 (v := nI (n + 1)) dX3_chanceOf_81 (zn_inc _) rfl ?_
              refine zA_goto 5 dX3_chanceOf_84 (by decide) ?_
              exact ih (n + 1) _ _ rfl (by omega)
            · exact absurd h9 (by omega)
          | succ q ih2 =>
            intro k l6 hk
            refine zA_iload_5 dX3_chanceOf_14 ?_
            refine zA_aload_0 dX3_chanceOf_16 ?_
            refine zA_getI (v := (nI P)) sh_3 fX3_38 dX3_chanceOf_17 rfl hP ?_
            refine zA_icmp_geN 81 dX3_chanceOf_20 (by decide) (by omega) (by omega) (fun h9 => ?_) (fun h9 => ?_)
            · exact absurd h9 (by omega)
            · refine zA_iload_1 dX3_chanceOf_23 ?_
              refine zA_iconst (nI 2) dX3_chanceOf_24 ic_2 ?_
              refine zA_iload_4 dX3_chanceOf_25 ?_
              refine zA_imulN dX3_chanceOf_27 ?_
              refine zA_iload_5 dX3_chanceOf_28 ?_
              refine zA_iaddN dX3_chanceOf_30 ?_
              refine zA_ishr dX3_chanceOf_31 ?_
              refine zA_iconst (nI 1) dX3_chanceOf_32 ic_1 ?_
              refine zA_iand dX3_chanceOf_33 ?_
              refine zA_iconst (nI 1) dX3_chanceOf_34 ic_1 ?_
              refine zA_icmp_ne 42 dX3_chanceOf_35 (by decide) (fun h8 => ?_) (fun h8 => ?_)
              · refine zA_iconst (nI 0) dX3_chanceOf_42 ic_0 ?_
                refine zA_istore_6 dX3_chanceOf_43 rfl ?_
                refine zA_lload_2 dX3_chanceOf_45 ?_
                refine zA_iload_6 dX3_chanceOf_46 ?_
                refine zA_if_eq 62 dX3_chanceOf_48 (by decide) (fun _ => ?_) (fun hh => absurd rfl hh)
                refine zA_bipush (nI 16) dX3_chanceOf_62 bc_16 ?_
                refine zA_aload_0 dX3_chanceOf_64 ?_
                refine zA_getR sh_3 fX3_19 dX3_chanceOf_65 rfl (rt_3_2 _) ?_
                refine zA_iload_5 dX3_chanceOf_68 ?_
                refine zA_iald (v := (gi 18 k)) k sh_18 dX3_chanceOf_70 rfl (by omega) (by decide) rfl ?_
                refine zA_isub dX3_chanceOf_71 ?_
                refine zA_i2l dX3_chanceOf_72 ?_
                refine zA_lmul dX3_chanceOf_73 ?_
                refine zA_lstore_2 dX3_chanceOf_74 rfl ?_
                refine zA_iinc_5 (v := nI (k + 1)) dX3_chanceOf_75 (zn_inc _) rfl ?_
                refine zA_goto 14 dX3_chanceOf_78 (by decide) ?_
                have e8 : fChI gi s n (k + 1) (fChO gi s P n 1) = (fChI gi s n k (fChO gi s P n 1)) * (((nI 16) - (gi 18 k)).toInt64) := by show fChI gi s n k (fChO gi s P n 1) * (if zbit s (2 * n + k) then _ else _) = _; rw [if_neg h8]
                have h7 := fun (l6 : Option Value) => ih2 (k + 1) l6 (by omega)
                rw [e8] at h7
                exact h7 _
              · refine zA_iconst (nI 1) dX3_chanceOf_38 ic_1 ?_
                refine zA_goto 43 dX3_chanceOf_39 (by decide) ?_
                refine zA_istore_6 dX3_chanceOf_43 rfl ?_
                refine zA_lload_2 dX3_chanceOf_45 ?_
                refine zA_iload_6 dX3_chanceOf_46 ?_
                refine zA_if_eq 62 dX3_chanceOf_48 (by decide) (fun hh => absurd hh (by decide)) (fun _ => ?_)
                refine zA_aload_0 dX3_chanceOf_51 ?_
                refine zA_getR sh_3 fX3_19 dX3_chanceOf_52 rfl (rt_3_2 _) ?_
                refine zA_iload_5 dX3_chanceOf_55 ?_
                refine zA_iald (v := (gi 18 k)) k sh_18 dX3_chanceOf_57 rfl (by omega) (by decide) rfl ?_
                refine zA_i2l dX3_chanceOf_58 ?_
                refine zA_goto 73 dX3_chanceOf_59 (by decide) ?_
                refine zA_lmul dX3_chanceOf_73 ?_
                refine zA_lstore_2 dX3_chanceOf_74 rfl ?_
                refine zA_iinc_5 (v := nI (k + 1)) dX3_chanceOf_75 (zn_inc _) rfl ?_
                refine zA_goto 14 dX3_chanceOf_78 (by decide) ?_
                have e8 : fChI gi s n (k + 1) (fChO gi s P n 1) = (fChI gi s n k (fChO gi s P n 1)) * ((gi 18 k).toInt64) := by show fChI gi s n k (fChO gi s P n 1) * (if zbit s (2 * n + k) then _ else _) = _; rw [if_pos h8]
                have h7 := fun (l6 : Option Value) => ih2 (k + 1) l6 (by omega)
                rw [e8] at h7
                exact h7 _
        exact inn P 0 _ (by omega)
  exact key 4 0 none none rfl (by omega)
