def zit (S : zm_I → Nat → zm_I) (M : zm_I) : Nat → zm_I
  | 0 => M
  | i + 1 => S (zit S M i) i
theorem zit_nq {S : zm_I → Nat → zm_I} {a : Nat} (h : ∀ M i, S M i a = M a) (M : zm_I) : ∀ n, zit S M n a = M a
  | 0 => rfl
  | n + 1 => (h _ _).trans (zit_nq h M n)
def fForget (gi : zm_I) (i : Nat) : zm_I := zs (zs (zs (zs (zs (zs (zs gi 59 i (nI 0)) 60 i (nI 0)) 61 i (nI 0)) 62 i (nI 0)) 63 i (nI 0)) 64 i (nI 0)) 65 i (nI 0)
def fHeads (gi : zm_I) (v p : Nat) : Int32 := zmin (zmax (gi (5 + v) 0 * gi (5 + v) (4 + zi (gi (23 + p) 0)) / nI 100 - gi 73 (p * 8 + v)) (nI 0)) (gi (5 + v) 1)
def fFacts (gi : zm_I) (gl : zm_J) (v p : Nat) : zm_J :=
  zsL (zsL (zsL (zsL (zsL (zsL (zsL (zsL (zsL (zsL (zsL gl 74 0 (gi (5 + v) 0).toInt64) 74 1 (gi (5 + v) 1).toInt64) 74 2 (gi (5 + v) 2).toInt64) 74 3 (gi (5 + v) 3).toInt64) 74 4 (gi (5 + v) (4 + zi (gi (23 + p) 0))).toInt64) 74 5 (nI (zi (gi (23 + p) 0))).toInt64) 74 6 (gi (23 + p) 1).toInt64) 74 7 (gi (23 + p) 2).toInt64) 74 8 (gi 57 15).toInt64) 74 9 (gi 72 p).toInt64) 74 10 (fHeads gi v p).toInt64
def fDrive (gi : zm_I) (i w v s : Nat) : zm_I :=
  zs (zs (zs (zs gi 65 i (fFew gi (zi (gi 67 w)) v s)) 69 w (gi 69 w + fFew gi (zi (gi 67 w)) v s)) 57 18 (gi 57 18 + fFew gi (zi (gi 67 w)) v s)) 67 w (nI v)
def fLate (gi : zm_I) (p : Nat) : Int32 := zmax ((if gi 71 p = -1 then nI 4 else gi 71 p) - gi (23 + p) 5) (nI 0)
def fEggs (gi : zm_I) (n : Nat) (pr : Int32) : Int32 := (pr + zmax (gi 2 n) (nI 1) - nI 1) / zmax (gi 2 n) (nI 1)
def fFuelS (M : zm_I) (i : Nat) : zm_I := zs (zs M 66 3 (M 66 3 + M 69 i * M 36 6 / nI 10)) 66 1 (M 66 1 - M 69 i * M 36 6 / nI 10)
def fFineS (M : zm_I) (p : Nat) : zm_I := zs M 66 1 (M 66 1 - fLate M p * M (23 + p) 6)
def fEnd1S (n : Nat) (M : zm_I) (i : Nat) : zm_I := zs M 68 (i * 4 + n) (M 67 i)
def fEnd2S (n : Nat) (M : zm_I) (p : Nat) : zm_I := if M 71 p = -1 then (if M 67 (zi (M 70 p)) = M (23 + p) 4 then zs M 71 p (nI n) else M) else M
def fBeg1S (M : zm_I) (i : Nat) : zm_I := zs M 67 i (M 20 i)
def fBeg2S (M : zm_I) (p : Nat) : zm_I := zs M 70 p (M (23 + p) 3)
def zfl (M : zm_I) (q n : Nat) (v : Int32) : zm_I := va_up M q (zfill (M q) n v)
def fBeg0 (gi : zm_I) : zm_I := zfl (zfl (zfl (zfl (zfl gi 66 5 (nI 0)) 69 3 (nI 0)) 72 4 (nI 0)) 73 32 (nI 0)) 71 4 (-1)
def fBegin (gi : zm_I) (W Pn : Nat) : zm_I := zit fBeg2S (zit fBeg1S (fBeg0 gi) W) Pn
theorem fBeg1S_nq {a : Nat} (h : a ≠ 67) (M : zm_I) (i : Nat) : fBeg1S M i a = M a := zs_nq h
theorem fBeg2S_nq {a : Nat} (h : a ≠ 70) (M : zm_I) (i : Nat) : fBeg2S M i a = M a := zs_nq h
theorem fEnd1S_nq {n a : Nat} (h : a ≠ 68) (M : zm_I) (i : Nat) : fEnd1S n M i a = M a := zs_nq h
theorem fEnd2S_nq {n a : Nat} (h : a ≠ 71) (M : zm_I) (i : Nat) : fEnd2S n M i a = M a := by
  unfold fEnd2S
  split
  · split
    · exact zs_nq h
    · rfl
  · rfl
theorem fFuelS_nq {a : Nat} (h : a ≠ 66) (M : zm_I) (i : Nat) : fFuelS M i a = M a := by unfold fFuelS; rw [zs_nq h, zs_nq h]
theorem fFineS_nq {a : Nat} (h : a ≠ 66) (M : zm_I) (i : Nat) : fFineS M i a = M a := zs_nq h
theorem zfl_nq {M : zm_I} {q n a : Nat} {v : Int32} (h : a ≠ q) : zfl M q n v a = M a := zm_une h
theorem fBeg0_nq {gi : zm_I} {a : Nat} (h1 : a ≠ 66) (h2 : a ≠ 69) (h3 : a ≠ 72) (h4 : a ≠ 73) (h5 : a ≠ 71) : fBeg0 gi a = gi a := by unfold fBeg0; rw [zfl_nq h5, zfl_nq h4, zfl_nq h3, zfl_nq h2, zfl_nq h1]
theorem ct_begin (g : zm_G) (gi : zm_I) (gl : zm_J) (r : Nat) {W Pn : Nat} (hW : gi 19 3 = nI W) (hw : W ≤ 3) (hP : gi 19 4 = nI Pn) (hp : Pn ≤ 4)  : zC_v g yX0_begin mX0_begin 1 [.ref 57] zSH gi gl (zRT r) (fun gi' gl' gr' => gi' = fBegin gi W Pn ∧ gl' = gl ∧ gr' = zRT r) := by
  refine zC_v_of [some (.ref 57), none] (by decide) rfl rfl (Nat.le_of_ble_eq_true rfl) (fun x => ?_)
  refine zA_aload_0 dX0_begin_0 ?_
  refine zA_getR sh_57 fX0_18 dX0_begin_1 rfl (rt_57_5 _) ?_
  refine zA_iconst (nI 0) dX0_begin_4 ic_0 ?_
  refine zA_cSv (ct_fill g gi gl _ (nI 0) sh_66 (by decide)) calJ7_fill_53178 stJ7_fill_53178 lX0_104 dX0_begin_5 (by decide) (by simp [Value.category]) rfl (Nat.le_refl _) (Nat.le_refl _) (fun gi' gl' gr' ⟨e1, e2, e3⟩ => ?_)
  rw [e1, e2, e3]
  clear e1 e2 e3
  refine zA_aload_0 dX0_begin_8 ?_
  refine zA_getR sh_57 fX0_28 dX0_begin_9 rfl (rt_57_8 _) ?_
  refine zA_iconst (nI 0) dX0_begin_12 ic_0 ?_
  refine zA_cSv (ct_fill g (zfl gi 66 5 (nI 0)) gl _ (nI 0) sh_69 (by decide)) calJ7_fill_53178 stJ7_fill_53178 lX0_104 dX0_begin_13 (by decide) (by simp [Value.category]) rfl (Nat.le_refl _) (Nat.le_refl _) (fun gi' gl' gr' ⟨e1, e2, e3⟩ => ?_)
  rw [e1, e2, e3]
  clear e1 e2 e3
  refine zA_aload_0 dX0_begin_16 ?_
  refine zA_getR sh_57 fX0_37 dX0_begin_17 rfl (rt_57_11 _) ?_
  refine zA_iconst (nI 0) dX0_begin_20 ic_0 ?_
  refine zA_cSv (ct_fill g (zfl (zfl gi 66 5 (nI 0)) 69 3 (nI 0)) gl _ (nI 0) sh_72 (by decide)) calJ7_fill_53178 stJ7_fill_53178 lX0_104 dX0_begin_21 (by decide) (by simp [Value.category]) rfl (Nat.le_refl _) (Nat.le_refl _) (fun gi' gl' gr' ⟨e1, e2, e3⟩ => ?_)
  rw [e1, e2, e3]
  clear e1 e2 e3
  refine zA_aload_0 dX0_begin_24 ?_
  refine zA_getR sh_57 fX0_40 dX0_begin_25 rfl (rt_57_12 _) ?_
  refine zA_iconst (nI 0) dX0_begin_28 ic_0 ?_
  refine zA_cSv (ct_fill g (zfl (zfl (zfl gi 66 5 (nI 0)) 69 3 (nI 0)) 72 4 (nI 0)) gl _ (nI 0) sh_73 (by decide)) calJ7_fill_53178 stJ7_fill_53178 lX0_104 dX0_begin_29 (by decide) (by simp [Value.category]) rfl (Nat.le_refl _) (Nat.le_refl _) (fun gi' gl' gr' ⟨e1, e2, e3⟩ => ?_)
  rw [e1, e2, e3]
  clear e1 e2 e3
  refine zA_aload_0 dX0_begin_32 ?_
  refine zA_getR sh_57 fX0_34 dX0_begin_33 rfl (rt_57_10 _) ?_
  refine zA_iconst (-1) dX0_begin_36 ic_m1 ?_
  refine zA_cSv (ct_fill g (zfl (zfl (zfl (zfl gi 66 5 (nI 0)) 69 3 (nI 0)) 72 4 (nI 0)) 73 32 (nI 0)) gl _ (-1) sh_71 (by decide)) calJ7_fill_53178 stJ7_fill_53178 lX0_104 dX0_begin_37 (by decide) (by simp [Value.category]) rfl (Nat.le_refl _) (Nat.le_refl _) (fun gi' gl' gr' ⟨e1, e2, e3⟩ => ?_)
  rw [e1, e2, e3]
  clear e1 e2 e3
  refine zA_iconst (nI 0) dX0_begin_40 ic_0 ?_
  refine zA_istore_1 dX0_begin_41 rfl ?_
  have key : ∀ (m i : Nat), i + m = W → zB_v x g mX0_begin 1 zSH (fun gi' gl' gr' => gi' = fBegin gi W Pn ∧ gl' = gl ∧ gr' = zRT r) 42 [some (.ref 57), some (.int (nI i))] [] (zit fBeg1S (fBeg0 gi) i) gl (zRT r) := by
    intro m
    induction m with
    | zero =>
      intro i hi_i
      refine zA_iload_1 dX0_begin_42 ?_
      refine zA_aload_0 dX0_begin_43 ?_
      refine zA_getR sh_57 fX0_51 dX0_begin_44 rfl (rt_57_1 _) ?_
      refine zA_getI (v := (nI W)) sh_19 fX0_82 dX0_begin_47 rfl (((congrFun (zit_nq (fBeg1S_nq (by decide)) (fBeg0 gi) i) 3).trans (congrFun (fBeg0_nq (by decide) (by decide) (by decide) (by decide) (by decide)) 3)).trans hW) ?_
      refine zA_icmp_geN 74 dX0_begin_50 (by decide) (by omega) (by omega) (fun h => ?_) (fun h => ?_)
      · have e : i = W := by omega
        rw [e]
        refine zA_iconst (nI 0) dX0_begin_74 ic_0 ?_
        refine zA_istore_1 dX0_begin_75 rfl ?_
        have key2 : ∀ (k j : Nat), j + k = Pn → zB_v x g mX0_begin 1 zSH (fun gi' gl' gr' => gi' = fBegin gi W Pn ∧ gl' = gl ∧ gr' = zRT r) 76 [some (.ref 57), some (.int (nI j))] [] (zit fBeg2S (zit fBeg1S (fBeg0 gi) W) j) gl (zRT r) := by
          intro k
          induction k with
          | zero =>
            intro j hi_j
            refine zA_iload_1 dX0_begin_76 ?_
            refine zA_aload_0 dX0_begin_77 ?_
            refine zA_getR sh_57 fX0_51 dX0_begin_78 rfl (rt_57_1 _) ?_
            refine zA_getI (v := (nI Pn)) sh_19 fX0_113 dX0_begin_81 rfl ((((congrFun (zit_nq (fBeg2S_nq (by decide)) _ j) 4).trans (congrFun (zit_nq (fBeg1S_nq (by decide)) (fBeg0 gi) W) 4)).trans (congrFun (fBeg0_nq (by decide) (by decide) (by decide) (by decide) (by decide)) 4)).trans hP) ?_
            refine zA_icmp_geN 110 dX0_begin_84 (by decide) (by omega) (by omega) (fun h2 => ?_) (fun h2 => ?_)
            · have e : j = Pn := by omega
              subst e
              exact zB_vret rfl dX0_begin_110 (⟨rfl, rfl, rfl⟩)
            · exact absurd h2 (by omega)
          | succ k ih_j =>
            intro j hi_j
            refine zA_iload_1 dX0_begin_76 ?_
            refine zA_aload_0 dX0_begin_77 ?_
            refine zA_getR sh_57 fX0_51 dX0_begin_78 rfl (rt_57_1 _) ?_
            refine zA_getI (v := (nI Pn)) sh_19 fX0_113 dX0_begin_81 rfl ((((congrFun (zit_nq (fBeg2S_nq (by decide)) _ j) 4).trans (congrFun (zit_nq (fBeg1S_nq (by decide)) (fBeg0 gi) W) 4)).trans (congrFun (fBeg0_nq (by decide) (by decide) (by decide) (by decide) (by decide)) 4)).trans hP) ?_
            refine zA_icmp_geN 110 dX0_begin_84 (by decide) (by omega) (by omega) (fun h2 => ?_) (fun h2 => ?_)
            · exact absurd h2 (by omega)
            · refine zA_aload_0 dX0_begin_87 ?_
              refine zA_getR sh_57 fX0_31 dX0_begin_88 rfl (rt_57_9 _) ?_
              refine zA_iload_1 dX0_begin_91 ?_
              refine zA_aload_0 dX0_begin_92 ?_
              refine zA_getR sh_57 fX0_51 dX0_begin_93 rfl (rt_57_1 _) ?_
              refine zA_getR sh_19 fX0_116 dX0_begin_96 rfl (rt_19_2 _) ?_
              refine zA_iload_1 dX0_begin_99 ?_
              refine zA_aald j sh_22 dX0_begin_100 rfl (by omega) (by decide) (rtr_pf _ (by omega)) ?_
              refine zA_iconst (nI 3) dX0_begin_101 ic_3 ?_
              refine zA_iald (v := ((zit fBeg2S (zit fBeg1S (fBeg0 gi) W) j) (23 + j) 3)) 3 (shr_pf (by omega)) dX0_begin_102 rfl (by decide) (by decide) rfl ?_
              refine zS_iast j sh_70 dX0_begin_103 rfl (by omega) (by decide) ?_
              refine zA_iinc_1 (v := nI (j + 1)) dX0_begin_104 (zn_inc _) rfl ?_
              refine zA_goto 76 dX0_begin_107 (by decide) ?_
              exact ih_j (j + 1) (by omega)
        exact key2 Pn 0 (by omega)
      · exact absurd h (by omega)
    | succ m ih_i =>
      intro i hi_i
      refine zA_iload_1 dX0_begin_42 ?_
      refine zA_aload_0 dX0_begin_43 ?_
      refine zA_getR sh_57 fX0_51 dX0_begin_44 rfl (rt_57_1 _) ?_
      refine zA_getI (v := (nI W)) sh_19 fX0_82 dX0_begin_47 rfl (((congrFun (zit_nq (fBeg1S_nq (by decide)) (fBeg0 gi) i) 3).trans (congrFun (fBeg0_nq (by decide) (by decide) (by decide) (by decide) (by decide)) 3)).trans hW) ?_
      refine zA_icmp_geN 74 dX0_begin_50 (by decide) (by omega) (by omega) (fun h => ?_) (fun h => ?_)
      · exact absurd h (by omega)
      · refine zA_aload_0 dX0_begin_53 ?_
        refine zA_getR sh_57 fX0_22 dX0_begin_54 rfl (rt_57_6 _) ?_
        refine zA_iload_1 dX0_begin_57 ?_
        refine zA_aload_0 dX0_begin_58 ?_
        refine zA_getR sh_57 fX0_51 dX0_begin_59 rfl (rt_57_1 _) ?_
        refine zA_getR sh_19 fX0_110 dX0_begin_62 rfl (rt_19_0 _) ?_
        refine zA_iload_1 dX0_begin_65 ?_
        refine zA_iald (v := ((zit fBeg1S (fBeg0 gi) i) 20 i)) i sh_20 dX0_begin_66 rfl (by omega) (by decide) rfl ?_
        refine zS_iast i sh_67 dX0_begin_67 rfl (by omega) (by decide) ?_
        refine zA_iinc_1 (v := nI (i + 1)) dX0_begin_68 (zn_inc _) rfl ?_
        refine zA_goto 42 dX0_begin_71 (by decide) ?_
        exact ih_i (i + 1) (by omega)
  exact key W 0 (by omega)
theorem ct_forget (g : zm_G) (gi : zm_I) (gl : zm_J) (r : Nat) {i : Nat} (hi : i < 27)  : zC_v g yX0_forget mX0_forget 0 [.ref 57, .int (nI i)] zSH gi gl (zRT r) (fun gi' gl' gr' => gi' = fForget gi i ∧ gl' = gl ∧ gr' = zRT r) := by
  refine zC_v_of [some (.ref 57), some (.int (nI i)), none] (by decide) rfl rfl (Nat.le_of_ble_eq_true rfl) (fun x => ?_)
  refine zA_iconst (nI 0) dX0_forget_0 ic_0 ?_
  refine zA_istore_2 dX0_forget_1 rfl ?_
  refine zA_iload_2 dX0_forget_2 ?_
  refine zA_bipush (nI 7) dX0_forget_3 bc_7 ?_
  refine zA_icmp_geN 23 dX0_forget_5 (by decide) (by decide) (by decide) (fun hh => absurd hh (by decide)) (fun _ => ?_)
  refine zA_aload_0 dX0_forget_8 ?_
  refine zA_getR sh_57 fX0_13 dX0_forget_9 rfl (rt_57_4 _) ?_
  refine zA_iload_2 dX0_forget_12 ?_
  refine zA_aald 0 sh_58 dX0_forget_13 rfl (by decide) (by decide) (rt_58_0 _) ?_
  refine zA_iload_1 dX0_forget_14 ?_
  refine zA_iconst (nI 0) dX0_forget_15 ic_0 ?_
  refine zS_iast i sh_59 dX0_forget_16 rfl (by omega) (by decide) ?_
  refine zA_iinc_2 (v := nI (0 + 1)) dX0_forget_17 (zn_inc _) rfl ?_
  refine zA_goto 2 dX0_forget_20 (by decide) ?_
  refine zA_iload_2 dX0_forget_2 ?_
  refine zA_bipush (nI 7) dX0_forget_3 bc_7 ?_
  refine zA_icmp_geN 23 dX0_forget_5 (by decide) (by decide) (by decide) (fun hh => absurd hh (by decide)) (fun _ => ?_)
  refine zA_aload_0 dX0_forget_8 ?_
  refine zA_getR sh_57 fX0_13 dX0_forget_9 rfl (rt_57_4 _) ?_
  refine zA_iload_2 dX0_forget_12 ?_
  refine zA_aald 1 sh_58 dX0_forget_13 rfl (by decide) (by decide) (rt_58_1 _) ?_
  refine zA_iload_1 dX0_forget_14 ?_
  refine zA_iconst (nI 0) dX0_forget_15 ic_0 ?_
  refine zS_iast i sh_60 dX0_forget_16 rfl (by omega) (by decide) ?_
  refine zA_iinc_2 (v := nI (1 + 1)) dX0_forget_17 (zn_inc _) rfl ?_
  refine zA_goto 2 dX0_forget_20 (by decide) ?_
  refine zA_iload_2 dX0_forget_2 ?_
  refine zA_bipush (nI 7) dX0_forget_3 bc_7 ?_
  refine zA_icmp_geN 23 dX0_forget_5 (by decide) (by decide) (by decide) (fun hh => absurd hh (by decide)) (fun _ => ?_)
  refine zA_aload_0 dX0_forget_8 ?_
  refine zA_getR sh_57 fX0_13 dX0_forget_9 rfl (rt_57_4 _) ?_
  refine zA_iload_2 dX0_forget_12 ?_
  refine zA_aald 2 sh_58 dX0_forget_13 rfl (by decide) (by decide) (rt_58_2 _) ?_
  refine zA_iload_1 dX0_forget_14 ?_
  refine zA_iconst (nI 0) dX0_forget_15 ic_0 ?_
  refine zS_iast i sh_61 dX0_forget_16 rfl (by omega) (by decide) ?_
  refine zA_iinc_2 (v := nI (2 + 1)) dX0_forget_17 (zn_inc _) rfl ?_
  refine zA_goto 2 dX0_forget_20 (by decide) ?_
  refine zA_iload_2 dX0_forget_2 ?_
  refine zA_bipush (nI 7) dX0_forget_3 bc_7 ?_
  refine zA_icmp_geN 23 dX0_forget_5 (by decide) (by decide) (by decide) (fun hh => absurd hh (by decide)) (fun _ => ?_)
  refine zA_aload_0 dX0_forget_8 ?_
  refine zA_getR sh_57 fX0_13 dX0_forget_9 rfl (rt_57_4 _) ?_
  refine zA_iload_2 dX0_forget_12 ?_
  refine zA_aald 3 sh_58 dX0_forget_13 rfl (by decide) (by decide) (rt_58_3 _) ?_
  refine zA_iload_1 dX0_forget_14 ?_
  refine zA_iconst (nI 0) dX0_forget_15 ic_0 ?_
  refine zS_iast i sh_62 dX0_forget_16 rfl (by omega) (by decide) ?_
  refine zA_iinc_2 (v := nI (3 + 1)) dX0_forget_17 (zn_inc _) rfl ?_
  refine zA_goto 2 dX0_forget_20 (by decide) ?_
  refine zA_iload_2 dX0_forget_2 ?_
  refine zA_bipush (nI 7) dX0_forget_3 bc_7 ?_
  refine zA_icmp_geN 23 dX0_forget_5 (by decide) (by decide) (by decide) (fun hh => absurd hh (by decide)) (fun _ => ?_)
  refine zA_aload_0 dX0_forget_8 ?_
  refine zA_getR sh_57 fX0_13 dX0_forget_9 rfl (rt_57_4 _) ?_
  refine zA_iload_2 dX0_forget_12 ?_
  refine zA_aald 4 sh_58 dX0_forget_13 rfl (by decide) (by decide) (rt_58_4 _) ?_
  refine zA_iload_1 dX0_forget_14 ?_
  refine zA_iconst (nI 0) dX0_forget_15 ic_0 ?_
  refine zS_iast i sh_63 dX0_forget_16 rfl (by omega) (by decide) ?_
  refine zA_iinc_2 (v := nI (4 + 1)) dX0_forget_17 (zn_inc _) rfl ?_
  refine zA_goto 2 dX0_forget_20 (by decide) ?_
  refine zA_iload_2 dX0_forget_2 ?_
  refine zA_bipush (nI 7) dX0_forget_3 bc_7 ?_
  refine zA_icmp_geN 23 dX0_forget_5 (by decide) (by decide) (by decide) (fun hh => absurd hh (by decide)) (fun _ => ?_)
  refine zA_aload_0 dX0_forget_8 ?_
  refine zA_getR sh_57 fX0_13 dX0_forget_9 rfl (rt_57_4 _) ?_
  refine zA_iload_2 dX0_forget_12 ?_
  refine zA_aald 5 sh_58 dX0_forget_13 rfl (by decide) (by decide) (rt_58_5 _) ?_
  refine zA_iload_1 dX0_forget_14 ?_
  refine zA_iconst (nI 0) dX0_forget_15 ic_0 ?_
  refine zS_iast i sh_64 dX0_forget_16 rfl (by omega) (by decide) ?_
  refine zA_iinc_2 (v := nI (5 + 1)) dX0_forget_17 (zn_inc _) rfl ?_
  refine zA_goto 2 dX0_forget_20 (by decide) ?_
  refine zA_iload_2 dX0_forget_2 ?_
  refine zA_bipush (nI 7) dX0_forget_3 bc_7 ?_
  refine zA_icmp_geN 23 dX0_forget_5 (by decide) (by decide) (by decide) (fun hh => absurd hh (by decide)) (fun _ => ?_)
  refine zA_aload_0 dX0_forget_8 ?_
  refine zA_getR sh_57 fX0_13 dX0_forget_9 rfl (rt_57_4 _) ?_
  refine zA_iload_2 dX0_forget_12 ?_
  refine zA_aald 6 sh_58 dX0_forget_13 rfl (by decide) (by decide) (rt_58_6 _) ?_
  refine zA_iload_1 dX0_forget_14 ?_
  refine zA_iconst (nI 0) dX0_forget_15 ic_0 ?_
  refine zS_iast i sh_65 dX0_forget_16 rfl (by omega) (by decide) ?_
  refine zA_iinc_2 (v := nI (6 + 1)) dX0_forget_17 (zn_inc _) rfl ?_
  refine zA_goto 2 dX0_forget_20 (by decide) ?_
  refine zA_iload_2 dX0_forget_2 ?_
  refine zA_bipush (nI 7) dX0_forget_3 bc_7 ?_
  refine zA_icmp_geN 23 dX0_forget_5 (by decide) (by decide) (by decide) (fun _ => ?_) (fun hh => absurd hh (by decide))
  exact zB_vret rfl dX0_forget_23 (⟨rfl, rfl, rfl⟩)
theorem ct_headsAt (g : zm_G) (gi : zm_I) (gl : zm_J) (r : Nat) {v p : Nat} (hv : v < 8) (hp : p < 4) (hg : zx (gi (23 + p) 0) 4)  : zC_i g yX0_headsAt mX0_headsAt 1 [.ref 57, .int (nI v), .int (nI p)] zSH gi gl (zRT r) (fun z gi' gl' gr' => z = fHeads gi v p ∧ gi' = gi ∧ gl' = gl ∧ gr' = zRT r) := by
  have hg2 := hg.2
  refine zC_i_of [some (.ref 57), some (.int (nI v)), some (.int (nI p)), none, none, none] (by decide) rfl rfl (Nat.le_of_ble_eq_true rfl) (fun x => ?_)
  refine zA_aload_0 dX0_headsAt_0 ?_
  refine zA_getR sh_57 fX0_47 dX0_headsAt_1 rfl (rt_57_0 _) ?_
  refine zA_getR sh_3 fX0_189 dX0_headsAt_4 rfl (rt_3_0 _) ?_
  refine zA_iload_1 dX0_headsAt_7 ?_
  refine zA_aald v sh_4 dX0_headsAt_8 rfl (by omega) (by decide) (rtr_fa _ (by omega)) ?_
  refine zA_astore_3 dX0_headsAt_9 rfl ?_
  refine zA_aload_3 dX0_headsAt_10 ?_
  refine zA_iconst (nI 4) dX0_headsAt_11 ic_4 ?_
  refine zA_aload_0 dX0_headsAt_12 ?_
  refine zA_getR sh_57 fX0_51 dX0_headsAt_13 rfl (rt_57_1 _) ?_
  refine zA_getR sh_19 fX0_116 dX0_headsAt_16 rfl (rt_19_2 _) ?_
  refine zA_iload_2 dX0_headsAt_19 ?_
  refine zA_aald p sh_22 dX0_headsAt_20 rfl (by omega) (by decide) (rtr_pf _ (by omega)) ?_
  refine zA_iconst (nI 0) dX0_headsAt_21 ic_0 ?_
  refine zA_iald (v := (nI (zi (gi (23 + p) 0)))) 0 (shr_pf (by omega)) dX0_headsAt_22 rfl (by decide) (by decide) hg.1 ?_
  refine zA_iaddN dX0_headsAt_23 ?_
  refine zA_iald (v := (gi (5 + v) (4 + (zi (gi (23 + p) 0))))) (4 + (zi (gi (23 + p) 0))) (shr_fa (by omega)) dX0_headsAt_24 rfl (by omega) (by decide) rfl ?_
  refine zA_istore_4 dX0_headsAt_25 rfl ?_
  refine zA_aload_3 dX0_headsAt_27 ?_
  refine zA_iconst (nI 0) dX0_headsAt_28 ic_0 ?_
  refine zA_iald (v := (gi (5 + v) 0)) 0 (shr_fa (by omega)) dX0_headsAt_29 rfl (by decide) (by decide) rfl ?_
  refine zA_iload_4 dX0_headsAt_30 ?_
  refine zA_imul dX0_headsAt_32 ?_
  refine zA_bipush (nI 100) dX0_headsAt_33 bc_100 ?_
  refine zA_idiv dX0_headsAt_35 (by decide) ?_
  refine zA_aload_0 dX0_headsAt_36 ?_
  refine zA_getR sh_57 fX0_40 dX0_headsAt_37 rfl (rt_57_12 _) ?_
  refine zA_iload_2 dX0_headsAt_40 ?_
  refine zA_bipush (nI 8) dX0_headsAt_41 bc_8 ?_
  refine zA_imulN dX0_headsAt_43 ?_
  refine zA_iload_1 dX0_headsAt_44 ?_
  refine zA_iaddN dX0_headsAt_45 ?_
  refine zA_iald (v := (gi 73 ((p * 8) + v))) ((p * 8) + v) sh_73 dX0_headsAt_46 rfl (by omega) (by decide) rfl ?_
  refine zA_isub dX0_headsAt_47 ?_
  refine zA_istore_5 dX0_headsAt_48 rfl ?_
  refine zA_iload_5 dX0_headsAt_50 ?_
  refine zA_iconst (nI 0) dX0_headsAt_52 ic_0 ?_
  refine zA_cSi (ct_max g _ _ _ _ _) calJ9_max_7cf53 stJ9_max_7cf53 lX0_195 dX0_headsAt_53 (by decide) (by simp [Value.category]) rfl (Nat.le_refl _) (Nat.le_refl _) (fun zz gi' gl' gr' ⟨hz, e1, e2, e3⟩ => ?_)
  rw [hz, e1, e2, e3]
  clear hz e1 e2 e3
  refine zA_aload_3 dX0_headsAt_56 ?_
  refine zA_iconst (nI 1) dX0_headsAt_57 ic_1 ?_
  refine zA_iald (v := (gi (5 + v) 1)) 1 (shr_fa (by omega)) dX0_headsAt_58 rfl (by decide) (by decide) rfl ?_
  refine zA_cSi (ct_min g _ _ _ _ _) calJ9_min_7cf53 stJ9_min_7cf53 lX0_200 dX0_headsAt_59 (by decide) (by simp [Value.category]) rfl (Nat.le_refl _) (Nat.le_refl _) (fun zz gi' gl' gr' ⟨hz, e1, e2, e3⟩ => ?_)
  rw [hz, e1, e2, e3]
  clear hz e1 e2 e3
  exact zB_iret rfl dX0_headsAt_62 (⟨rfl, rfl, rfl, rfl⟩)
theorem ct_gatherFacts (g : zm_G) (gi : zm_I) (gl : zm_J) (r : Nat) {v p : Nat} (hv : v < 8) (hp : p < 4) (hg : zx (gi (23 + p) 0) 4)  : zC_v g yX0_gatherFacts mX0_gatherFacts 2 [.ref 57, .int (nI v), .int (nI p)] zSH gi gl (zRT r) (fun gi' gl' gr' => gi' = gi ∧ gl' = fFacts gi gl v p ∧ gr' = zRT r) := by
  have hg2 := hg.2
  refine zC_v_of [some (.ref 57), some (.int (nI v)), some (.int (nI p)), none, none, none] (by decide) rfl rfl (Nat.le_of_ble_eq_true rfl) (fun x => ?_)
  refine zA_aload_0 dX0_gatherFacts_0 ?_
  refine zA_getR sh_57 fX0_47 dX0_gatherFacts_1 rfl (rt_57_0 _) ?_
  refine zA_getR sh_3 fX0_189 dX0_gatherFacts_4 rfl (rt_3_0 _) ?_
  refine zA_iload_1 dX0_gatherFacts_7 ?_
  refine zA_aald v sh_4 dX0_gatherFacts_8 rfl (by omega) (by decide) (rtr_fa _ (by omega)) ?_
  refine zA_astore_3 dX0_gatherFacts_9 rfl ?_
  refine zA_aload_0 dX0_gatherFacts_10 ?_
  refine zA_getR sh_57 fX0_51 dX0_gatherFacts_11 rfl (rt_57_1 _) ?_
  refine zA_getR sh_19 fX0_116 dX0_gatherFacts_14 rfl (rt_19_2 _) ?_
  refine zA_iload_2 dX0_gatherFacts_17 ?_
  refine zA_aald p sh_22 dX0_gatherFacts_18 rfl (by omega) (by decide) (rtr_pf _ (by omega)) ?_
  refine zA_astore_4 dX0_gatherFacts_19 rfl ?_
  refine zA_aload_4 dX0_gatherFacts_21 ?_
  refine zA_iconst (nI 0) dX0_gatherFacts_23 ic_0 ?_
  refine zA_iald (v := (nI (zi (gi (23 + p) 0)))) 0 (shr_pf (by omega)) dX0_gatherFacts_24 rfl (by decide) (by decide) hg.1 ?_
  refine zA_istore_5 dX0_gatherFacts_25 rfl ?_
  refine zA_aload_0 dX0_gatherFacts_27 ?_
  refine zA_getR sh_57 fX0_43 dX0_gatherFacts_28 rfl (rt_57_13 _) ?_
  refine zA_iconst (nI 0) dX0_gatherFacts_31 ic_0 ?_
  refine zA_aload_3 dX0_gatherFacts_32 ?_
  refine zA_iconst (nI 0) dX0_gatherFacts_33 ic_0 ?_
  refine zA_iald (v := (gi (5 + v) 0)) 0 (shr_fa (by omega)) dX0_gatherFacts_34 rfl (by decide) (by decide) rfl ?_
  refine zA_i2l dX0_gatherFacts_35 ?_
  refine zS_last 0 sh_74 dX0_gatherFacts_36 rfl (by decide) (by decide) ?_
  refine zA_aload_0 dX0_gatherFacts_37 ?_
  refine zA_getR sh_57 fX0_43 dX0_gatherFacts_38 rfl (rt_57_13 _) ?_
  refine zA_iconst (nI 1) dX0_gatherFacts_41 ic_1 ?_
  refine zA_aload_3 dX0_gatherFacts_42 ?_
  refine zA_iconst (nI 1) dX0_gatherFacts_43 ic_1 ?_
  refine zA_iald (v := (gi (5 + v) 1)) 1 (shr_fa (by omega)) dX0_gatherFacts_44 rfl (by decide) (by decide) rfl ?_
  refine zA_i2l dX0_gatherFacts_45 ?_
  refine zS_last 1 sh_74 dX0_gatherFacts_46 rfl (by decide) (by decide) ?_
  refine zA_aload_0 dX0_gatherFacts_47 ?_
  refine zA_getR sh_57 fX0_43 dX0_gatherFacts_48 rfl (rt_57_13 _) ?_
  refine zA_iconst (nI 2) dX0_gatherFacts_51 ic_2 ?_
  refine zA_aload_3 dX0_gatherFacts_52 ?_
  refine zA_iconst (nI 2) dX0_gatherFacts_53 ic_2 ?_
  refine zA_iald (v := (gi (5 + v) 2)) 2 (shr_fa (by omega)) dX0_gatherFacts_54 rfl (by decide) (by decide) rfl ?_
  refine zA_i2l dX0_gatherFacts_55 ?_
  refine zS_last 2 sh_74 dX0_gatherFacts_56 rfl (by decide) (by decide) ?_
  refine zA_aload_0 dX0_gatherFacts_57 ?_
  refine zA_getR sh_57 fX0_43 dX0_gatherFacts_58 rfl (rt_57_13 _) ?_
  refine zA_iconst (nI 3) dX0_gatherFacts_61 ic_3 ?_
  refine zA_aload_3 dX0_gatherFacts_62 ?_
  refine zA_iconst (nI 3) dX0_gatherFacts_63 ic_3 ?_
  refine zA_iald (v := (gi (5 + v) 3)) 3 (shr_fa (by omega)) dX0_gatherFacts_64 rfl (by decide) (by decide) rfl ?_
  refine zA_i2l dX0_gatherFacts_65 ?_
  refine zS_last 3 sh_74 dX0_gatherFacts_66 rfl (by decide) (by decide) ?_
  refine zA_aload_0 dX0_gatherFacts_67 ?_
  refine zA_getR sh_57 fX0_43 dX0_gatherFacts_68 rfl (rt_57_13 _) ?_
  refine zA_iconst (nI 4) dX0_gatherFacts_71 ic_4 ?_
  refine zA_aload_3 dX0_gatherFacts_72 ?_
  refine zA_iconst (nI 4) dX0_gatherFacts_73 ic_4 ?_
  refine zA_iload_5 dX0_gatherFacts_74 ?_
  refine zA_iaddN dX0_gatherFacts_76 ?_
  refine zA_iald (v := (gi (5 + v) (4 + (zi (gi (23 + p) 0))))) (4 + (zi (gi (23 + p) 0))) (shr_fa (by omega)) dX0_gatherFacts_77 rfl (by omega) (by decide) rfl ?_
  refine zA_i2l dX0_gatherFacts_78 ?_
  refine zS_last 4 sh_74 dX0_gatherFacts_79 rfl (by decide) (by decide) ?_
  refine zA_aload_0 dX0_gatherFacts_80 ?_
  refine zA_getR sh_57 fX0_43 dX0_gatherFacts_81 rfl (rt_57_13 _) ?_
  refine zA_iconst (nI 5) dX0_gatherFacts_84 ic_5 ?_
  refine zA_iload_5 dX0_gatherFacts_85 ?_
  refine zA_i2l dX0_gatherFacts_87 ?_
  refine zS_last 5 sh_74 dX0_gatherFacts_88 rfl (by decide) (by decide) ?_
  refine zA_aload_0 dX0_gatherFacts_89 ?_
  refine zA_getR sh_57 fX0_43 dX0_gatherFacts_90 rfl (rt_57_13 _) ?_
  refine zA_bipush (nI 6) dX0_gatherFacts_93 bc_6 ?_
  refine zA_aload_4 dX0_gatherFacts_95 ?_
  refine zA_iconst (nI 1) dX0_gatherFacts_97 ic_1 ?_
  refine zA_iald (v := (gi (23 + p) 1)) 1 (shr_pf (by omega)) dX0_gatherFacts_98 rfl (by decide) (by decide) rfl ?_
  refine zA_i2l dX0_gatherFacts_99 ?_
  refine zS_last 6 sh_74 dX0_gatherFacts_100 rfl (by decide) (by decide) ?_
  refine zA_aload_0 dX0_gatherFacts_101 ?_
  refine zA_getR sh_57 fX0_43 dX0_gatherFacts_102 rfl (rt_57_13 _) ?_
  refine zA_bipush (nI 7) dX0_gatherFacts_105 bc_7 ?_
  refine zA_aload_4 dX0_gatherFacts_107 ?_
  refine zA_iconst (nI 2) dX0_gatherFacts_109 ic_2 ?_
  refine zA_iald (v := (gi (23 + p) 2)) 2 (shr_pf (by omega)) dX0_gatherFacts_110 rfl (by decide) (by decide) rfl ?_
  refine zA_i2l dX0_gatherFacts_111 ?_
  refine zS_last 7 sh_74 dX0_gatherFacts_112 rfl (by decide) (by decide) ?_
  refine zA_aload_0 dX0_gatherFacts_113 ?_
  refine zA_getR sh_57 fX0_43 dX0_gatherFacts_114 rfl (rt_57_13 _) ?_
  refine zA_bipush (nI 8) dX0_gatherFacts_117 bc_8 ?_
  refine zA_aload_0 dX0_gatherFacts_119 ?_
  refine zA_getI (v := (gi 57 15)) sh_57 fX0_69 dX0_gatherFacts_120 rfl rfl ?_
  refine zA_i2l dX0_gatherFacts_123 ?_
  refine zS_last 8 sh_74 dX0_gatherFacts_124 rfl (by decide) (by decide) ?_
  refine zA_aload_0 dX0_gatherFacts_125 ?_
  refine zA_getR sh_57 fX0_43 dX0_gatherFacts_126 rfl (rt_57_13 _) ?_
  refine zA_bipush (nI 9) dX0_gatherFacts_129 bc_9 ?_
  refine zA_aload_0 dX0_gatherFacts_131 ?_
  refine zA_getR sh_57 fX0_37 dX0_gatherFacts_132 rfl (rt_57_11 _) ?_
  refine zA_iload_2 dX0_gatherFacts_135 ?_
  refine zA_iald (v := (gi 72 p)) p sh_72 dX0_gatherFacts_136 rfl (by omega) (by decide) rfl ?_
  refine zA_i2l dX0_gatherFacts_137 ?_
  refine zS_last 9 sh_74 dX0_gatherFacts_138 rfl (by decide) (by decide) ?_
  refine zA_aload_0 dX0_gatherFacts_139 ?_
  refine zA_getR sh_57 fX0_43 dX0_gatherFacts_140 rfl (rt_57_13 _) ?_
  refine zA_bipush (nI 10) dX0_gatherFacts_143 bc_10 ?_
  refine zA_aload_0 dX0_gatherFacts_145 ?_
  refine zA_iload_1 dX0_gatherFacts_146 ?_
  refine zA_iload_2 dX0_gatherFacts_147 ?_
  refine zA_cVi (ct_headsAt g gi _ r hv hp hg) calX0_headsAt stX0_headsAt lX0_191 dX0_gatherFacts_148 (by decide) (by simp [Value.category]) rfl (Nat.le_refl _) (Nat.le_refl _) sh_57 rfl (fun zz gi' gl' gr' ⟨hz, e1, e2, e3⟩ => ?_)
  rw [hz, e1, e2, e3]
  clear hz e1 e2 e3
  refine zA_i2l dX0_gatherFacts_151 ?_
  refine zS_last 10 sh_74 dX0_gatherFacts_152 rfl (by decide) (by decide) ?_
  exact zB_vret rfl dX0_gatherFacts_153 (⟨rfl, rfl, rfl⟩)
theorem ct_drive (g : zm_G) (gi : zm_I) (gl : zm_J) (r : Nat) {i w v s : Nat} (hi : i < 27) (hw : w < 3) (hv : v < 8) (hs : s < 4) (hS : gi 57 16 = nI s) (hp : zx (gi 67 w) 8)  : zC_v g yX0_drive mX0_drive 1 [.ref 57, .int (nI i), .int (nI w), .int (nI v)] zSH gi gl (zRT r) (fun gi' gl' gr' => gi' = fDrive gi i w v s ∧ gl' = gl ∧ gr' = zRT r) := by
  have hp2 := hp.2
  refine zC_v_of [some (.ref 57), some (.int (nI i)), some (.int (nI w)), some (.int (nI v)), none] (by decide) rfl rfl (Nat.le_of_ble_eq_true rfl) (fun x => ?_)
  refine zA_aload_0 dX0_drive_0 ?_
  refine zA_getR sh_57 fX0_47 dX0_drive_1 rfl (rt_57_0 _) ?_
  refine zA_aload_0 dX0_drive_4 ?_
  refine zA_getR sh_57 fX0_22 dX0_drive_5 rfl (rt_57_6 _) ?_
  refine zA_iload_2 dX0_drive_8 ?_
  refine zA_iald (v := (nI (zi (gi 67 w)))) w sh_67 dX0_drive_9 rfl (by omega) (by decide) hp.1 ?_
  refine zA_iload_3 dX0_drive_10 ?_
  refine zA_aload_0 dX0_drive_11 ?_
  refine zA_getI (v := (nI s)) sh_57 fX0_73 dX0_drive_12 rfl hS ?_
  refine zA_cVi (ct_fewestMinutes g gi gl r hp.2 hv hs) calX3_fewestMinutes stX3_fewestMinutes lX0_169 dX0_drive_15 (by decide) (by simp [Value.category]) rfl (Nat.le_refl _) (Nat.le_refl _) sh_3 rfl (fun zz gi' gl' gr' ⟨hz, e1, e2, e3⟩ => ?_)
  rw [hz, e1, e2, e3]
  clear hz e1 e2 e3
  refine zA_istore_4 dX0_drive_18 rfl ?_
  refine zA_aload_0 dX0_drive_20 ?_
  refine zA_getR sh_57 fX0_13 dX0_drive_21 rfl (rt_57_4 _) ?_
  refine zA_bipush (nI 6) dX0_drive_24 bc_6 ?_
  refine zA_aald 6 sh_58 dX0_drive_26 rfl (by decide) (by decide) (rt_58_6 _) ?_
  refine zA_iload_1 dX0_drive_27 ?_
  refine zA_iload_4 dX0_drive_28 ?_
  refine zS_iast i sh_65 dX0_drive_30 rfl (by omega) (by decide) ?_
  refine zA_aload_0 dX0_drive_31 ?_
  refine zA_getR sh_57 fX0_28 dX0_drive_32 rfl (rt_57_8 _) ?_
  refine zA_iload_2 dX0_drive_35 ?_
  refine zA_dup2 dX0_drive_36 rfl rfl ?_
  refine zA_iald (v := (gi 69 w)) w sh_69 dX0_drive_37 rfl (by omega) (by decide) rfl ?_
  refine zA_iload_4 dX0_drive_38 ?_
  refine zA_iadd dX0_drive_40 ?_
  refine zS_iast w sh_69 dX0_drive_41 rfl (by omega) (by decide) ?_
  refine zA_aload_0 dX0_drive_42 ?_
  refine zA_dup dX0_drive_43 rfl ?_
  refine zA_getI (v := (gi 57 18)) sh_57 fX0_134 dX0_drive_44 rfl rfl ?_
  refine zA_iload_4 dX0_drive_47 ?_
  refine zA_iadd dX0_drive_49 ?_
  refine zS_putI sh_57 fX0_134 dX0_drive_50 rfl rfl ?_
  refine zA_aload_0 dX0_drive_53 ?_
  refine zA_getR sh_57 fX0_22 dX0_drive_54 rfl (rt_57_6 _) ?_
  refine zA_iload_2 dX0_drive_57 ?_
  refine zA_iload_3 dX0_drive_58 ?_
  refine zS_iast w sh_67 dX0_drive_59 rfl (by omega) (by decide) ?_
  exact zB_vret rfl dX0_drive_60 (⟨rfl, rfl, rfl⟩)
theorem ct_nightsLate (g : zm_G) (gi : zm_I) (gl : zm_J) (r : Nat) {p : Nat} (hp : p < 4)  : zC_i g yX0_nightsLate mX0_nightsLate 1 [.ref 57, .int (nI p)] zSH gi gl (zRT r) (fun z gi' gl' gr' => z = fLate gi p ∧ gi' = gi ∧ gl' = gl ∧ gr' = zRT r) := by
  refine zC_i_of [some (.ref 57), some (.int (nI p)), none] (by decide) rfl rfl (Nat.le_of_ble_eq_true rfl) (fun x => ?_)
  refine zA_aload_0 dX0_nightsLate_0 ?_
  refine zA_getR sh_57 fX0_34 dX0_nightsLate_1 rfl (rt_57_10 _) ?_
  refine zA_iload_1 dX0_nightsLate_4 ?_
  refine zA_iald (v := (gi 71 p)) p sh_71 dX0_nightsLate_5 rfl (by omega) (by decide) rfl ?_
  refine zA_iconst (-1) dX0_nightsLate_6 ic_m1 ?_
  refine zA_icmp_ne 14 dX0_nightsLate_7 (by decide) (fun h => ?_) (fun h => ?_)
  · refine zA_aload_0 dX0_nightsLate_14 ?_
    refine zA_getR sh_57 fX0_34 dX0_nightsLate_15 rfl (rt_57_10 _) ?_
    refine zA_iload_1 dX0_nightsLate_18 ?_
    refine zA_iald (v := (gi 71 p)) p sh_71 dX0_nightsLate_19 rfl (by omega) (by decide) rfl ?_
    refine zA_istore_2 dX0_nightsLate_20 rfl ?_
    refine zA_iload_2 dX0_nightsLate_21 ?_
    refine zA_aload_0 dX0_nightsLate_22 ?_
    refine zA_getR sh_57 fX0_51 dX0_nightsLate_23 rfl (rt_57_1 _) ?_
    refine zA_getR sh_19 fX0_116 dX0_nightsLate_26 rfl (rt_19_2 _) ?_
    refine zA_iload_1 dX0_nightsLate_29 ?_
    refine zA_aald p sh_22 dX0_nightsLate_30 rfl (by omega) (by decide) (rtr_pf _ (by omega)) ?_
    refine zA_iconst (nI 5) dX0_nightsLate_31 ic_5 ?_
    refine zA_iald (v := (gi (23 + p) 5)) 5 (shr_pf (by omega)) dX0_nightsLate_32 rfl (by decide) (by decide) rfl ?_
    refine zA_isub dX0_nightsLate_33 ?_
    refine zA_iconst (nI 0) dX0_nightsLate_34 ic_0 ?_
    refine zA_cSi (ct_max g _ _ _ _ _) calJ9_max_7cf53 stJ9_max_7cf53 lX0_195 dX0_nightsLate_35 (by decide) (by simp [Value.category]) rfl (Nat.le_refl _) (Nat.le_refl _) (fun zz gi' gl' gr' ⟨hz, e1, e2, e3⟩ => ?_)
    rw [hz, e1, e2, e3]
    clear hz e1 e2 e3
    exact zB_iret rfl dX0_nightsLate_38 (⟨by unfold fLate; rw [if_neg h], rfl, rfl, rfl⟩)
  · refine zA_iconst (nI 4) dX0_nightsLate_10 ic_4 ?_
    refine zA_goto 20 dX0_nightsLate_11 (by decide) ?_
    refine zA_istore_2 dX0_nightsLate_20 rfl ?_
    refine zA_iload_2 dX0_nightsLate_21 ?_
    refine zA_aload_0 dX0_nightsLate_22 ?_
    refine zA_getR sh_57 fX0_51 dX0_nightsLate_23 rfl (rt_57_1 _) ?_
    refine zA_getR sh_19 fX0_116 dX0_nightsLate_26 rfl (rt_19_2 _) ?_
    refine zA_iload_1 dX0_nightsLate_29 ?_
    refine zA_aald p sh_22 dX0_nightsLate_30 rfl (by omega) (by decide) (rtr_pf _ (by omega)) ?_
    refine zA_iconst (nI 5) dX0_nightsLate_31 ic_5 ?_
    refine zA_iald (v := (gi (23 + p) 5)) 5 (shr_pf (by omega)) dX0_nightsLate_32 rfl (by decide) (by decide) rfl ?_
    refine zA_isub dX0_nightsLate_33 ?_
    refine zA_iconst (nI 0) dX0_nightsLate_34 ic_0 ?_
    refine zA_cSi (ct_max g _ _ _ _ _) calJ9_max_7cf53 stJ9_max_7cf53 lX0_195 dX0_nightsLate_35 (by decide) (by simp [Value.category]) rfl (Nat.le_refl _) (Nat.le_refl _) (fun zz gi' gl' gr' ⟨hz, e1, e2, e3⟩ => ?_)
    rw [hz, e1, e2, e3]
    clear hz e1 e2 e3
    exact zB_iret rfl dX0_nightsLate_38 (⟨by unfold fLate; rw [if_pos h], rfl, rfl, rfl⟩)
theorem zmax1 (a : Int32) : ¬ zmax a (nI 1) = 0 := by
  unfold zmax
  by_cases h : a < nI 1
  · rw [if_pos h]; decide
  · rw [if_neg h]
    intro e
    rw [e] at h
    exact h (by decide)
theorem ct_eggsEach (g : zm_G) (gi : zm_I) (gl : zm_J) (r : Nat) {n : Nat} (hn : n < 4) (hN : gi 57 15 = nI n) (pr : Int32)  : zC_i g yX0_eggsEach mX0_eggsEach 1 [.ref 57, .int pr] zSH gi gl (zRT r) (fun z gi' gl' gr' => z = fEggs gi n pr ∧ gi' = gi ∧ gl' = gl ∧ gr' = zRT r) := by
  refine zC_i_of [some (.ref 57), some (.int pr), none] (by decide) rfl rfl (Nat.le_of_ble_eq_true rfl) (fun x => ?_)
  refine zA_aload_0 dX0_eggsEach_0 ?_
  refine zA_getR sh_57 fX0_63 dX0_eggsEach_1 rfl (rt_57_3 _) ?_
  refine zA_aload_0 dX0_eggsEach_4 ?_
  refine zA_getI (v := (nI n)) sh_57 fX0_69 dX0_eggsEach_5 rfl hN ?_
  refine zA_iald (v := (gi 2 n)) n sh_2 dX0_eggsEach_8 rfl (by omega) (by decide) rfl ?_
  refine zA_iconst (nI 1) dX0_eggsEach_9 ic_1 ?_
  refine zA_cSi (ct_max g _ _ _ _ _) calJ9_max_7cf53 stJ9_max_7cf53 lX0_195 dX0_eggsEach_10 (by decide) (by simp [Value.category]) rfl (Nat.le_refl _) (Nat.le_refl _) (fun zz gi' gl' gr' ⟨hz, e1, e2, e3⟩ => ?_)
  rw [hz, e1, e2, e3]
  clear hz e1 e2 e3
  refine zA_istore_2 dX0_eggsEach_13 rfl ?_
  refine zA_iload_1 dX0_eggsEach_14 ?_
  refine zA_iload_2 dX0_eggsEach_15 ?_
  refine zA_iadd dX0_eggsEach_16 ?_
  refine zA_iconst (nI 1) dX0_eggsEach_17 ic_1 ?_
  refine zA_isub dX0_eggsEach_18 ?_
  refine zA_iload_2 dX0_eggsEach_19 ?_
  refine zA_idiv dX0_eggsEach_20 (zmax1 _) ?_
  exact zB_iret rfl dX0_eggsEach_21 (⟨rfl, rfl, rfl, rfl⟩)
def zmaxL (a b : Int64) : Int64 := if lg_cmp a b < 0 then b else a
def zminL (a b : Int64) : Int64 := if 0 < lg_cmp a b then b else a
def fCut (v : Int64) (m : Int32) : Int32 := (zmaxL 0 (zminL v m.toInt64)).toInt32
theorem ct_cut (g : zm_G) {sh : List zm_K} (gi : zm_I) (gl : zm_J) (gr : zm_R) (v : Int64) (m : Int32)  : zC_i g yX0_cut mX0_cut 1 [.long v, .int m] sh gi gl gr (fun z gi' gl' gr' => z = fCut v m ∧ gi' = gi ∧ gl' = gl ∧ gr' = gr) := by
  refine zC_i_of [some (.long v), none, some (.int m)] (by decide) rfl rfl (Nat.le_of_ble_eq_true rfl) (fun x => ?_)
  refine zA_lconst 0 dX0_cut_0 (by decide) ?_
  refine zA_lload_0 dX0_cut_1 ?_
  refine zA_iload_2 dX0_cut_2 ?_
  refine zA_i2l dX0_cut_3 ?_
  refine zA_cSl (ct_minL g _ _ _ _ _) calJ9_min_f86c9 stJ9_min_f86c9 lX0_211 dX0_cut_4 (by decide) (by simp [Value.category]) rfl (Nat.le_refl _) (Nat.le_refl _) (fun zz gi' gl' gr' ⟨hz, e1, e2, e3⟩ => ?_)
  rw [hz, e1, e2, e3]
  clear hz e1 e2 e3
  refine zA_cSl (ct_maxL g _ _ _ _ _) calJ9_max_f86c9 stJ9_max_f86c9 lX0_214 dX0_cut_7 (by decide) (by simp [Value.category]) rfl (Nat.le_refl _) (Nat.le_refl _) (fun zz gi' gl' gr' ⟨hz, e1, e2, e3⟩ => ?_)
  rw [hz, e1, e2, e3]
  clear hz e1 e2 e3
  refine zA_l2i dX0_cut_10 ?_
  exact zB_iret rfl dX0_cut_11 (⟨rfl, rfl, rfl, rfl⟩)
theorem ct_payFuel (g : zm_G) (gi : zm_I) (gl : zm_J) (r : Nat) {W : Nat} (hW : gi 19 3 = nI W) (hw : W ≤ 3)  : zC_v g yX0_payFuel mX0_payFuel 0 [.ref 57] zSH gi gl (zRT r) (fun gi' gl' gr' => gi' = zit fFuelS gi W ∧ gl' = gl ∧ gr' = zRT r) := by
  refine zC_v_of [some (.ref 57), none, none] (by decide) rfl rfl (Nat.le_of_ble_eq_true rfl) (fun x => ?_)
  refine zA_iconst (nI 0) dX0_payFuel_0 ic_0 ?_
  refine zA_istore_1 dX0_payFuel_1 rfl ?_
  have key : ∀ (m i : Nat) (l2 : Option Value), i + m = W → zB_v x g mX0_payFuel 0 zSH (fun gi' gl' gr' => gi' = zit fFuelS gi W ∧ gl' = gl ∧ gr' = zRT r) 2 [some (.ref 57), some (.int (nI i)), l2] [] (zit fFuelS gi i) gl (zRT r) := by
    intro m
    induction m with
    | zero =>
      intro i l2 hi
      refine zA_iload_1 dX0_payFuel_2 ?_
      refine zA_aload_0 dX0_payFuel_3 ?_
      refine zA_getR sh_57 fX0_51 dX0_payFuel_4 rfl (rt_57_1 _) ?_
      refine zA_getI (v := (nI W)) sh_19 fX0_82 dX0_payFuel_7 rfl ((congrFun (zit_nq (fFuelS_nq (by decide)) gi i) 3).trans hW) ?_
      refine zA_icmp_geN 57 dX0_payFuel_10 (by decide) (by omega) (by omega) (fun h => ?_) (fun h => ?_)
      · have e : i = W := by omega
        subst e
        exact zB_vret rfl dX0_payFuel_57 (⟨rfl, rfl, rfl⟩)
      · exact absurd h (by omega)
    | succ m ih =>
      intro i l2 hi
      refine zA_iload_1 dX0_payFuel_2 ?_
      refine zA_aload_0 dX0_payFuel_3 ?_
      refine zA_getR sh_57 fX0_51 dX0_payFuel_4 rfl (rt_57_1 _) ?_
      refine zA_getI (v := (nI W)) sh_19 fX0_82 dX0_payFuel_7 rfl ((congrFun (zit_nq (fFuelS_nq (by decide)) gi i) 3).trans hW) ?_
      refine zA_icmp_geN 57 dX0_payFuel_10 (by decide) (by omega) (by omega) (fun h => ?_) (fun h => ?_)
      · exact absurd h (by omega)
      · refine zA_aload_0 dX0_payFuel_13 ?_
        refine zA_getR sh_57 fX0_28 dX0_payFuel_14 rfl (rt_57_8 _) ?_
        refine zA_iload_1 dX0_payFuel_17 ?_
        refine zA_iald (v := ((zit fFuelS gi i) 69 i)) i sh_69 dX0_payFuel_18 rfl (by omega) (by decide) rfl ?_
        refine zA_aload_0 dX0_payFuel_19 ?_
        refine zA_getR sh_57 fX0_59 dX0_payFuel_20 rfl (rt_57_2 _) ?_
        refine zA_getI (v := ((zit fFuelS gi i) 36 6)) sh_36 fX0_216 dX0_payFuel_23 rfl rfl ?_
        refine zA_imul dX0_payFuel_26 ?_
        refine zA_bipush (nI 10) dX0_payFuel_27 bc_10 ?_
        refine zA_idiv dX0_payFuel_29 (by decide) ?_
        refine zA_istore_2 dX0_payFuel_30 rfl ?_
        refine zA_aload_0 dX0_payFuel_31 ?_
        refine zA_getR sh_57 fX0_18 dX0_payFuel_32 rfl (rt_57_5 _) ?_
        refine zA_iconst (nI 3) dX0_payFuel_35 ic_3 ?_
        refine zA_dup2 dX0_payFuel_36 rfl rfl ?_
        refine zA_iald (v := ((zit fFuelS gi i) 66 3)) 3 sh_66 dX0_payFuel_37 rfl (by decide) (by decide) rfl ?_
        refine zA_iload_2 dX0_payFuel_38 ?_
        refine zA_iadd dX0_payFuel_39 ?_
        refine zS_iast 3 sh_66 dX0_payFuel_40 rfl (by decide) (by decide) ?_
        refine zA_aload_0 dX0_payFuel_41 ?_
        refine zA_getR sh_57 fX0_18 dX0_payFuel_42 rfl (rt_57_5 _) ?_
        refine zA_iconst (nI 1) dX0_payFuel_45 ic_1 ?_
        refine zA_dup2 dX0_payFuel_46 rfl rfl ?_
        refine zA_iald (v := ((zit fFuelS gi i) 66 1)) 1 sh_66 dX0_payFuel_47 rfl (by decide) (by decide) rfl ?_
        refine zA_iload_2 dX0_payFuel_48 ?_
        refine zA_isub dX0_payFuel_49 ?_
        refine zS_iast 1 sh_66 dX0_payFuel_50 rfl (by decide) (by decide) ?_
        refine zA_iinc_1 (v := nI (i + 1)) dX0_payFuel_51 (zn_inc _) rfl ?_
        refine zA_goto 2 dX0_payFuel_54 (by decide) ?_
        exact ih (i + 1) _ (by omega)
  exact key W 0 none (by omega)
theorem ct_payFines (g : zm_G) (gi : zm_I) (gl : zm_J) (r : Nat) {Pn : Nat} (hP : gi 19 4 = nI Pn) (hp : Pn ≤ 4)  : zC_v g yX0_payFines mX0_payFines 2 [.ref 57] zSH gi gl (zRT r) (fun gi' gl' gr' => gi' = zit fFineS gi Pn ∧ gl' = gl ∧ gr' = zRT r) := by
  refine zC_v_of [some (.ref 57), none] (by decide) rfl rfl (Nat.le_of_ble_eq_true rfl) (fun x => ?_)
  refine zA_iconst (nI 0) dX0_payFines_0 ic_0 ?_
  refine zA_istore_1 dX0_payFines_1 rfl ?_
  have key : ∀ (m i : Nat), i + m = Pn → zB_v x g mX0_payFines 2 zSH (fun gi' gl' gr' => gi' = zit fFineS gi Pn ∧ gl' = gl ∧ gr' = zRT r) 2 [some (.ref 57), some (.int (nI i))] [] (zit fFineS gi i) gl (zRT r) := by
    intro m
    induction m with
    | zero =>
      intro i hi_i
      refine zA_iload_1 dX0_payFines_2 ?_
      refine zA_aload_0 dX0_payFines_3 ?_
      refine zA_getR sh_57 fX0_51 dX0_payFines_4 rfl (rt_57_1 _) ?_
      refine zA_getI (v := (nI Pn)) sh_19 fX0_113 dX0_payFines_7 rfl ((congrFun (zit_nq (fFineS_nq (by decide)) gi i) 4).trans hP) ?_
      refine zA_icmp_geN 46 dX0_payFines_10 (by decide) (by omega) (by omega) (fun h => ?_) (fun h => ?_)
      · have e : i = Pn := by omega
        subst e
        exact zB_vret rfl dX0_payFines_46 (⟨rfl, rfl, rfl⟩)
      · exact absurd h (by omega)
    | succ m ih_i =>
      intro i hi_i
      refine zA_iload_1 dX0_payFines_2 ?_
      refine zA_aload_0 dX0_payFines_3 ?_
      refine zA_getR sh_57 fX0_51 dX0_payFines_4 rfl (rt_57_1 _) ?_
      refine zA_getI (v := (nI Pn)) sh_19 fX0_113 dX0_payFines_7 rfl ((congrFun (zit_nq (fFineS_nq (by decide)) gi i) 4).trans hP) ?_
      refine zA_icmp_geN 46 dX0_payFines_10 (by decide) (by omega) (by omega) (fun h => ?_) (fun h => ?_)
      · exact absurd h (by omega)
      · refine zA_aload_0 dX0_payFines_13 ?_
        refine zA_getR sh_57 fX0_18 dX0_payFines_14 rfl (rt_57_5 _) ?_
        refine zA_iconst (nI 1) dX0_payFines_17 ic_1 ?_
        refine zA_dup2 dX0_payFines_18 rfl rfl ?_
        refine zA_iald (v := ((zit fFineS gi i) 66 1)) 1 sh_66 dX0_payFines_19 rfl (by decide) (by decide) rfl ?_
        refine zA_aload_0 dX0_payFines_20 ?_
        refine zA_iload_1 dX0_payFines_21 ?_
        refine zA_cVi (ct_nightsLate g (zit fFineS gi i) gl r (p := i) (by omega)) calX0_nightsLate stX0_nightsLate lX0_219 dX0_payFines_22 (by decide) (by simp [Value.category]) rfl (Nat.le_refl _) (Nat.le_refl _) sh_57 rfl (fun zz gi' gl' gr' ⟨hz, e1, e2, e3⟩ => ?_)
        rw [hz, e1, e2, e3]
        clear hz e1 e2 e3
        refine zA_aload_0 dX0_payFines_25 ?_
        refine zA_getR sh_57 fX0_51 dX0_payFines_26 rfl (rt_57_1 _) ?_
        refine zA_getR sh_19 fX0_116 dX0_payFines_29 rfl (rt_19_2 _) ?_
        refine zA_iload_1 dX0_payFines_32 ?_
        refine zA_aald i sh_22 dX0_payFines_33 rfl (by omega) (by decide) (rtr_pf _ (by omega)) ?_
        refine zA_bipush (nI 6) dX0_payFines_34 bc_6 ?_
        refine zA_iald (v := ((zit fFineS gi i) (23 + i) 6)) 6 (shr_pf (by omega)) dX0_payFines_36 rfl (by decide) (by decide) rfl ?_
        refine zA_imul dX0_payFines_37 ?_
        refine zA_isub dX0_payFines_38 ?_
        refine zS_iast 1 sh_66 dX0_payFines_39 rfl (by decide) (by decide) ?_
        refine zA_iinc_1 (v := nI (i + 1)) dX0_payFines_40 (zn_inc _) rfl ?_
        refine zA_goto 2 dX0_payFines_43 (by decide) ?_
        exact ih_i (i + 1) (by omega)
  exact key Pn 0 (by omega)
theorem ct_endNight (g : zm_G) (gi : zm_I) (gl : zm_J) (r : Nat) {W Pn n : Nat} (hW : gi 19 3 = nI W) (hw : W ≤ 3) (hP : gi 19 4 = nI Pn) (hp : Pn ≤ 4) (hN : gi 57 15 = nI n) (hn : n < 4) (hh : ∀ p, p < Pn → zx (gi 70 p) W)  : zC_v g yX0_endNight mX0_endNight 0 [.ref 57] zSH gi gl (zRT r) (fun gi' gl' gr' => gi' = zit (fEnd2S n) (zit (fEnd1S n) gi W) Pn ∧ gl' = gl ∧ gr' = zRT r) := by
  refine zC_v_of [some (.ref 57), none] (by decide) rfl rfl (Nat.le_of_ble_eq_true rfl) (fun x => ?_)
  refine zA_iconst (nI 0) dX0_endNight_0 ic_0 ?_
  refine zA_istore_1 dX0_endNight_1 rfl ?_
  have key : ∀ (m i : Nat), i + m = W → zB_v x g mX0_endNight 0 zSH (fun gi' gl' gr' => gi' = zit (fEnd2S n) (zit (fEnd1S n) gi W) Pn ∧ gl' = gl ∧ gr' = zRT r) 2 [some (.ref 57), some (.int (nI i))] [] (zit (fEnd1S n) gi i) gl (zRT r) := by
    intro m
    induction m with
    | zero =>
      intro i hi_i
      refine zA_iload_1 dX0_endNight_2 ?_
      refine zA_aload_0 dX0_endNight_3 ?_
      refine zA_getR sh_57 fX0_51 dX0_endNight_4 rfl (rt_57_1 _) ?_
      refine zA_getI (v := (nI W)) sh_19 fX0_82 dX0_endNight_7 rfl ((congrFun (zit_nq (fEnd1S_nq (by decide)) gi i) 3).trans hW) ?_
      refine zA_icmp_geN 38 dX0_endNight_10 (by decide) (by omega) (by omega) (fun h => ?_) (fun h => ?_)
      · have e : i = W := by omega
        rw [e]
        refine zA_iconst (nI 0) dX0_endNight_38 ic_0 ?_
        refine zA_istore_1 dX0_endNight_39 rfl ?_
        have key2 : ∀ (k j : Nat), j + k = Pn → zB_v x g mX0_endNight 0 zSH (fun gi' gl' gr' => gi' = zit (fEnd2S n) (zit (fEnd1S n) gi W) Pn ∧ gl' = gl ∧ gr' = zRT r) 40 [some (.ref 57), some (.int (nI j))] [] (zit (fEnd2S n) (zit (fEnd1S n) gi W) j) gl (zRT r) := by
          intro k
          induction k with
          | zero =>
            intro j hi_j
            refine zA_iload_1 dX0_endNight_40 ?_
            refine zA_aload_0 dX0_endNight_41 ?_
            refine zA_getR sh_57 fX0_51 dX0_endNight_42 rfl (rt_57_1 _) ?_
            refine zA_getI (v := (nI Pn)) sh_19 fX0_113 dX0_endNight_45 rfl (((congrFun (zit_nq (fEnd2S_nq (by decide)) _ j) 4).trans (congrFun (zit_nq (fEnd1S_nq (by decide)) gi W) 4)).trans hP) ?_
            refine zA_icmp_geN 102 dX0_endNight_48 (by decide) (by omega) (by omega) (fun h2 => ?_) (fun h2 => ?_)
            · have e : j = Pn := by omega
              subst e
              exact zB_vret rfl dX0_endNight_102 (⟨rfl, rfl, rfl⟩)
            · exact absurd h2 (by omega)
          | succ k ih_j =>
            intro j hi_j
            have hj : zx (zit (fEnd2S n) (zit (fEnd1S n) gi W) j 70 j) W := by rw [((congrFun (zit_nq (fEnd2S_nq (by decide)) _ j) j).trans (congrFun (zit_nq (fEnd1S_nq (by decide)) gi W) j))]; exact hh j (by omega)
            have hj2 := hj.2
            refine zA_iload_1 dX0_endNight_40 ?_
            refine zA_aload_0 dX0_endNight_41 ?_
            refine zA_getR sh_57 fX0_51 dX0_endNight_42 rfl (rt_57_1 _) ?_
            refine zA_getI (v := (nI Pn)) sh_19 fX0_113 dX0_endNight_45 rfl (((congrFun (zit_nq (fEnd2S_nq (by decide)) _ j) 4).trans (congrFun (zit_nq (fEnd1S_nq (by decide)) gi W) 4)).trans hP) ?_
            refine zA_icmp_geN 102 dX0_endNight_48 (by decide) (by omega) (by omega) (fun h2 => ?_) (fun h2 => ?_)
            · exact absurd h2 (by omega)
            · refine zA_aload_0 dX0_endNight_51 ?_
              refine zA_getR sh_57 fX0_34 dX0_endNight_52 rfl (rt_57_10 _) ?_
              refine zA_iload_1 dX0_endNight_55 ?_
              refine zA_iald (v := ((zit (fEnd2S n) (zit (fEnd1S n) gi W) j) 71 j)) j sh_71 dX0_endNight_56 rfl (by omega) (by decide) rfl ?_
              refine zA_iconst (-1) dX0_endNight_57 ic_m1 ?_
              refine zA_icmp_ne 96 dX0_endNight_58 (by decide) (fun h3 => ?_) (fun h3 => ?_)
              · refine zA_iinc_1 (v := nI (j + 1)) dX0_endNight_96 (zn_inc _) rfl ?_
                refine zA_goto 40 dX0_endNight_99 (by decide) ?_
                refine zA_gi (gi2 := zit (fEnd2S n) (zit (fEnd1S n) gi W) (j + 1)) (if_neg h3).symm ?_
                exact ih_j (j + 1) (by omega)
              · refine zA_aload_0 dX0_endNight_61 ?_
                refine zA_getR sh_57 fX0_22 dX0_endNight_62 rfl (rt_57_6 _) ?_
                refine zA_aload_0 dX0_endNight_65 ?_
                refine zA_getR sh_57 fX0_31 dX0_endNight_66 rfl (rt_57_9 _) ?_
                refine zA_iload_1 dX0_endNight_69 ?_
                refine zA_iald (v := (nI (zi (zit (fEnd2S n) (zit (fEnd1S n) gi W) j 70 j)))) j sh_70 dX0_endNight_70 rfl (by omega) (by decide) hj.1 ?_
                refine zA_iald (v := ((zit (fEnd2S n) (zit (fEnd1S n) gi W) j) 67 (zi (zit (fEnd2S n) (zit (fEnd1S n) gi W) j 70 j)))) (zi (zit (fEnd2S n) (zit (fEnd1S n) gi W) j 70 j)) sh_67 dX0_endNight_71 rfl (by omega) (by decide) rfl ?_
                refine zA_aload_0 dX0_endNight_72 ?_
                refine zA_getR sh_57 fX0_51 dX0_endNight_73 rfl (rt_57_1 _) ?_
                refine zA_getR sh_19 fX0_116 dX0_endNight_76 rfl (rt_19_2 _) ?_
                refine zA_iload_1 dX0_endNight_79 ?_
                refine zA_aald j sh_22 dX0_endNight_80 rfl (by omega) (by decide) (rtr_pf _ (by omega)) ?_
                refine zA_iconst (nI 4) dX0_endNight_81 ic_4 ?_
                refine zA_iald (v := ((zit (fEnd2S n) (zit (fEnd1S n) gi W) j) (23 + j) 4)) 4 (shr_pf (by omega)) dX0_endNight_82 rfl (by decide) (by decide) rfl ?_
                refine zA_icmp_ne 96 dX0_endNight_83 (by decide) (fun h4 => ?_) (fun h4 => ?_)
                · refine zA_iinc_1 (v := nI (j + 1)) dX0_endNight_96 (zn_inc _) rfl ?_
                  refine zA_goto 40 dX0_endNight_99 (by decide) ?_
                  refine zA_gi (gi2 := zit (fEnd2S n) (zit (fEnd1S n) gi W) (j + 1)) ((if_pos h3).trans (if_neg h4)).symm ?_
                  exact ih_j (j + 1) (by omega)
                · refine zA_aload_0 dX0_endNight_86 ?_
                  refine zA_getR sh_57 fX0_34 dX0_endNight_87 rfl (rt_57_10 _) ?_
                  refine zA_iload_1 dX0_endNight_90 ?_
                  refine zA_aload_0 dX0_endNight_91 ?_
                  refine zA_getI (v := (nI n)) sh_57 fX0_69 dX0_endNight_92 rfl (((congrFun (zit_nq (fEnd2S_nq (by decide)) _ j) 15).trans (congrFun (zit_nq (fEnd1S_nq (by decide)) gi W) 15)).trans hN) ?_
                  refine zS_iast j sh_71 dX0_endNight_95 rfl (by omega) (by decide) ?_
                  refine zA_iinc_1 (v := nI (j + 1)) dX0_endNight_96 (zn_inc _) rfl ?_
                  refine zA_goto 40 dX0_endNight_99 (by decide) ?_
                  refine zA_gi (gi2 := zit (fEnd2S n) (zit (fEnd1S n) gi W) (j + 1)) ((if_pos h3).trans (if_pos h4)).symm ?_
                  exact ih_j (j + 1) (by omega)
        exact key2 Pn 0 (by omega)
      · exact absurd h (by omega)
    | succ m ih_i =>
      intro i hi_i
      refine zA_iload_1 dX0_endNight_2 ?_
      refine zA_aload_0 dX0_endNight_3 ?_
      refine zA_getR sh_57 fX0_51 dX0_endNight_4 rfl (rt_57_1 _) ?_
      refine zA_getI (v := (nI W)) sh_19 fX0_82 dX0_endNight_7 rfl ((congrFun (zit_nq (fEnd1S_nq (by decide)) gi i) 3).trans hW) ?_
      refine zA_icmp_geN 38 dX0_endNight_10 (by decide) (by omega) (by omega) (fun h => ?_) (fun h => ?_)
      · exact absurd h (by omega)
      · refine zA_aload_0 dX0_endNight_13 ?_
        refine zA_getR sh_57 fX0_25 dX0_endNight_14 rfl (rt_57_7 _) ?_
        refine zA_iload_1 dX0_endNight_17 ?_
        refine zA_iconst (nI 4) dX0_endNight_18 ic_4 ?_
        refine zA_imulN dX0_endNight_19 ?_
        refine zA_aload_0 dX0_endNight_20 ?_
        refine zA_getI (v := (nI n)) sh_57 fX0_69 dX0_endNight_21 rfl ((congrFun (zit_nq (fEnd1S_nq (by decide)) gi i) 15).trans hN) ?_
        refine zA_iaddN dX0_endNight_24 ?_
        refine zA_aload_0 dX0_endNight_25 ?_
        refine zA_getR sh_57 fX0_22 dX0_endNight_26 rfl (rt_57_6 _) ?_
        refine zA_iload_1 dX0_endNight_29 ?_
        refine zA_iald (v := ((zit (fEnd1S n) gi i) 67 i)) i sh_67 dX0_endNight_30 rfl (by omega) (by decide) rfl ?_
        refine zS_iast ((i * 4) + n) sh_68 dX0_endNight_31 rfl (by omega) (by decide) ?_
        refine zA_iinc_1 (v := nI (i + 1)) dX0_endNight_32 (zn_inc _) rfl ?_
        refine zA_goto 2 dX0_endNight_35 (by decide) ?_
        exact ih_i (i + 1) (by omega)
  exact key W 0 (by omega)
