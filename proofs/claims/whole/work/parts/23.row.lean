theorem zA_gi {x : zm_X} {g : zm_G} {y : zm_Y} {d mc ms : Nat} {Q : State → Prop} {ce sl pc : Nat} {L : List (Option Value)} {st : List Value} {sh : List zm_K} {gi gi2 : zm_I} {gl : zm_J} {gr : zm_R} (e : gi = gi2) (k : zA x g y d mc ms Q ce sl pc L st (sh, gi2, gl, gr)) : zA x g y d mc ms Q ce sl pc L st (sh, gi, gl, gr) := e ▸ k
theorem zA_gl {x : zm_X} {g : zm_G} {y : zm_Y} {d mc ms : Nat} {Q : State → Prop} {ce sl pc : Nat} {L : List (Option Value)} {st : List Value} {sh : List zm_K} {gi : zm_I} {gl gl2 : zm_J} {gr : zm_R} (e : gl = gl2) (k : zA x g y d mc ms Q ce sl pc L st (sh, gi, gl2, gr)) : zA x g y d mc ms Q ce sl pc L st (sh, gi, gl, gr) := e ▸ k
/-- an Int32 that is an index -/
def zx (v : Int32) (n : Nat) : Prop := v = nI (zi v) ∧ zi v < n
theorem zx_of {n k : Nat} (h : n < k) (hk : k < 2 ^ 31) : zx (nI n) k := by
  have e : zi (nI n) = n := zi_nI (by omega)
  exact ⟨by rw [e], by rw [e]; exact h⟩
theorem zmin_nI {a b : Nat} (h : b ≤ a) (ha : a < 2 ^ 31) : zmin (nI a) (nI b) = nI b := by
  unfold zmin
  by_cases q : nI b < nI a
  · rw [if_pos q]
  · rw [if_neg q]
    have h2 : ¬ b < a := fun z => q ((nI_ltI (by omega) ha).mpr z)
    rw [show a = b by omega]

theorem ct_hasPlanA (g : zm_G) (gi : zm_I) (gl : zm_J) (r : Nat) {n v : Nat} (hn : n < 4) (hv : v < 3)  : zC_i g yX7_hasPlan mX7_hasPlan 0 [.ref 27, .int (nI n), .int (nI v)] zSH gi gl (zRT r) (fun z gi' gl' gr' => z = zb (¬ gi 35 (n * 3 + v) ≤ 0) ∧ gi' = gi ∧ gl' = gl ∧ gr' = zRT r) := by
  refine zC_i_of [some (.ref 27), some (.int (nI n)), some (.int (nI v))] (by decide) rfl rfl (Nat.le_of_ble_eq_true rfl) (fun x => ?_)
  refine zA_aload_0 dX7_hasPlan_0 ?_
  refine zA_getR sh_27 fX7_33 dX7_hasPlan_1 rfl (rt_27_7 _) ?_
  refine zA_iload_1 dX7_hasPlan_4 ?_
  refine zA_iconst (nI 3) dX7_hasPlan_5 ic_3 ?_
  refine zA_imulN dX7_hasPlan_6 ?_
  refine zA_iload_2 dX7_hasPlan_7 ?_
  refine zA_iaddN dX7_hasPlan_8 ?_
  refine zA_iald (v := (gi 35 ((n * 3) + v))) ((n * 3) + v) sh_35 dX7_hasPlan_9 rfl (by omega) (by decide) rfl ?_
  refine zA_if_le 17 dX7_hasPlan_10 (by decide) (fun h => ?_) (fun h => ?_)
  · refine zA_iconst (nI 0) dX7_hasPlan_17 ic_0 ?_
    exact zB_zret rfl dX7_hasPlan_18 (by decide) (⟨(zb_f (fun z => z h)).symm, rfl, rfl, rfl⟩)
  · refine zA_iconst (nI 1) dX7_hasPlan_13 ic_1 ?_
    refine zA_goto 18 dX7_hasPlan_14 (by decide) ?_
    exact zB_zret rfl dX7_hasPlan_18 (by decide) (⟨(zb_t h).symm, rfl, rfl, rfl⟩)
def fAddEA (gi : zm_I) (E n v : Nat) (a p : Int32) : zm_I := zs (zs (zs (zs (zs (zs gi 28 E (nI n)) 29 E (nI v)) 30 E a) 31 E p) 35 (n * 3 + v) (gi 35 (n * 3 + v) + nI 1)) 27 8 (nI (E + 1))
theorem ct_addEntryA (g : zm_G) (gi : zm_I) (gl : zm_J) (r : Nat) {E n v : Nat} (hE : gi 27 8 = nI E) (he : E < 27) (hn : n < 4) (hv : v < 3) (a p : Int32)  : zC_i g yX7_addEntry mX7_addEntry 0 [.ref 27, .int (nI n), .int (nI v), .int a, .int p] zSH gi gl (zRT r) (fun z gi' gl' gr' => z = nI E ∧ gi' = fAddEA gi E n v a p ∧ gl' = gl ∧ gr' = zRT r) := by
  refine zC_i_of [some (.ref 27), some (.int (nI n)), some (.int (nI v)), some (.int a), some (.int p)] (by decide) rfl rfl (Nat.le_of_ble_eq_true rfl) (fun x => ?_)
  refine zA_aload_0 dX7_addEntry_0 ?_
  refine zA_getI (v := (nI E)) sh_27 fX7_36 dX7_addEntry_1 rfl hE ?_
  refine zA_bipush (nI 27) dX7_addEntry_4 bc_27 ?_
  refine zA_icmp_ltN 11 dX7_addEntry_6 (by decide) (by omega) (by omega) (fun h => ?_) (fun h => ?_)
  · refine zA_aload_0 dX7_addEntry_11 ?_
    refine zA_getR sh_27 fX7_11 dX7_addEntry_12 rfl (rt_27_0 _) ?_
    refine zA_aload_0 dX7_addEntry_15 ?_
    refine zA_getI (v := (nI E)) sh_27 fX7_36 dX7_addEntry_16 rfl hE ?_
    refine zA_iload_1 dX7_addEntry_19 ?_
    refine zS_iast E sh_28 dX7_addEntry_20 rfl (by omega) (by decide) ?_
    refine zA_aload_0 dX7_addEntry_21 ?_
    refine zA_getR sh_27 fX7_15 dX7_addEntry_22 rfl (rt_27_1 _) ?_
    refine zA_aload_0 dX7_addEntry_25 ?_
    refine zA_getI (v := (nI E)) sh_27 fX7_36 dX7_addEntry_26 rfl hE ?_
    refine zA_iload_2 dX7_addEntry_29 ?_
    refine zS_iast E sh_29 dX7_addEntry_30 rfl (by omega) (by decide) ?_
    refine zA_aload_0 dX7_addEntry_31 ?_
    refine zA_getR sh_27 fX7_18 dX7_addEntry_32 rfl (rt_27_2 _) ?_
    refine zA_aload_0 dX7_addEntry_35 ?_
    refine zA_getI (v := (nI E)) sh_27 fX7_36 dX7_addEntry_36 rfl hE ?_
    refine zA_iload_3 dX7_addEntry_39 ?_
    refine zS_iast E sh_30 dX7_addEntry_40 rfl (by omega) (by decide) ?_
    refine zA_aload_0 dX7_addEntry_41 ?_
    refine zA_getR sh_27 fX7_21 dX7_addEntry_42 rfl (rt_27_3 _) ?_
    refine zA_aload_0 dX7_addEntry_45 ?_
    refine zA_getI (v := (nI E)) sh_27 fX7_36 dX7_addEntry_46 rfl hE ?_
    refine zA_iload_4 dX7_addEntry_49 ?_
    refine zS_iast E sh_31 dX7_addEntry_51 rfl (by omega) (by decide) ?_
    refine zA_aload_0 dX7_addEntry_52 ?_
    refine zA_getR sh_27 fX7_33 dX7_addEntry_53 rfl (rt_27_7 _) ?_
    refine zA_iload_1 dX7_addEntry_56 ?_
    refine zA_iconst (nI 3) dX7_addEntry_57 ic_3 ?_
    refine zA_imulN dX7_addEntry_58 ?_
    refine zA_iload_2 dX7_addEntry_59 ?_
    refine zA_iaddN dX7_addEntry_60 ?_
    refine zA_dup2 dX7_addEntry_61 rfl rfl ?_
    refine zA_iald (v := (gi 35 (n * 3 + v))) ((n * 3) + v) sh_35 dX7_addEntry_62 rfl (by omega) (by decide) rfl ?_
    refine zA_iconst (nI 1) dX7_addEntry_63 ic_1 ?_
    refine zA_iadd dX7_addEntry_64 ?_
    refine zS_iast ((n * 3) + v) sh_35 dX7_addEntry_65 rfl (by omega) (by decide) ?_
    refine zA_aload_0 dX7_addEntry_66 ?_
    refine zA_dup dX7_addEntry_67 rfl ?_
    refine zA_getI (v := (nI E)) sh_27 fX7_36 dX7_addEntry_68 rfl hE ?_
    refine zA_iconst (nI 1) dX7_addEntry_71 ic_1 ?_
    refine zA_iaddN dX7_addEntry_72 ?_
    refine zS_putI sh_27 fX7_36 dX7_addEntry_73 rfl rfl ?_
    refine zA_aload_0 dX7_addEntry_76 ?_
    refine zA_getI (v := (nI (E + 1))) sh_27 fX7_36 dX7_addEntry_77 rfl rfl ?_
    refine zA_iconst (nI 1) dX7_addEntry_80 ic_1 ?_
    refine zA_isubN dX7_addEntry_81 (by omega) ?_
    exact zB_iret rfl dX7_addEntry_82 (⟨rfl, rfl, rfl, rfl⟩)
  · exact absurd h (by omega)
def fAddHA (gi : zm_I) (K : Nat) (n p v : Int32) : zm_I := zs (zs (zs (zs gi 32 K n) 33 K p) 34 K v) 27 9 (nI (K + 1))
theorem ct_addHandA (g : zm_G) (gi : zm_I) (gl : zm_J) (r : Nat) {K : Nat} (hK : gi 27 9 = nI K) (hk : K < 12) (n p v : Int32)  : zC_i g yX7_addHand mX7_addHand 0 [.ref 27, .int n, .int p, .int v] zSH gi gl (zRT r) (fun z gi' gl' gr' => z = nI K ∧ gi' = fAddHA gi K n p v ∧ gl' = gl ∧ gr' = zRT r) := by
  refine zC_i_of [some (.ref 27), some (.int n), some (.int p), some (.int v)] (by decide) rfl rfl (Nat.le_of_ble_eq_true rfl) (fun x => ?_)
  refine zA_aload_0 dX7_addHand_0 ?_
  refine zA_getR sh_27 fX7_24 dX7_addHand_1 rfl (rt_27_4 _) ?_
  refine zA_aload_0 dX7_addHand_4 ?_
  refine zA_getI (v := (nI K)) sh_27 fX7_40 dX7_addHand_5 rfl hK ?_
  refine zA_iload_1 dX7_addHand_8 ?_
  refine zS_iast K sh_32 dX7_addHand_9 rfl (by omega) (by decide) ?_
  refine zA_aload_0 dX7_addHand_10 ?_
  refine zA_getR sh_27 fX7_27 dX7_addHand_11 rfl (rt_27_5 _) ?_
  refine zA_aload_0 dX7_addHand_14 ?_
  refine zA_getI (v := (nI K)) sh_27 fX7_40 dX7_addHand_15 rfl hK ?_
  refine zA_iload_2 dX7_addHand_18 ?_
  refine zS_iast K sh_33 dX7_addHand_19 rfl (by omega) (by decide) ?_
  refine zA_aload_0 dX7_addHand_20 ?_
  refine zA_getR sh_27 fX7_30 dX7_addHand_21 rfl (rt_27_6 _) ?_
  refine zA_aload_0 dX7_addHand_24 ?_
  refine zA_getI (v := (nI K)) sh_27 fX7_40 dX7_addHand_25 rfl hK ?_
  refine zA_iload_3 dX7_addHand_28 ?_
  refine zS_iast K sh_34 dX7_addHand_29 rfl (by omega) (by decide) ?_
  refine zA_aload_0 dX7_addHand_30 ?_
  refine zA_dup dX7_addHand_31 rfl ?_
  refine zA_getI (v := (nI K)) sh_27 fX7_40 dX7_addHand_32 rfl hK ?_
  refine zA_iconst (nI 1) dX7_addHand_35 ic_1 ?_
  refine zA_iaddN dX7_addHand_36 ?_
  refine zS_putI sh_27 fX7_40 dX7_addHand_37 rfl rfl ?_
  refine zA_aload_0 dX7_addHand_40 ?_
  refine zA_getI (v := (nI (K + 1))) sh_27 fX7_40 dX7_addHand_41 rfl rfl ?_
  refine zA_iconst (nI 1) dX7_addHand_44 ic_1 ?_
  refine zA_isubN dX7_addHand_45 (by omega) ?_
  exact zB_iret rfl dX7_addHand_46 (⟨rfl, rfl, rfl, rfl⟩)
def fCutLA (gi : zm_I) (k : Nat) : Nat → zm_I
  | 0 => gi
  | m + 1 => zs (fCutLA gi k m) 35 (zi (gi 28 (k + m)) * 3 + zi (gi 29 (k + m))) (fCutLA gi k m 35 (zi (gi 28 (k + m)) * 3 + zi (gi 29 (k + m))) - nI 1)
theorem fCutLA_nq (gi : zm_I) (k : Nat) {a : Nat} (h : a ≠ 35) : ∀ m, fCutLA gi k m a = gi a
  | 0 => rfl
  | m + 1 => by rw [fCutLA, zs_nq h, fCutLA_nq gi k h m]
def fCutA (gi : zm_I) (k E : Nat) : zm_I := zs (fCutLA gi k (E - k)) 27 8 (nI k)
theorem ct_cutEntriesA (g : zm_G) (gi : zm_I) (gl : zm_J) (r : Nat) {k E : Nat} (hE : gi 27 8 = nI E) (he : E ≤ 27) (hk : k ≤ E) (hn : ∀ i, i < E → zx (gi 28 i) 4) (hv : ∀ i, i < E → zx (gi 29 i) 3)  : zC_v g yX7_cutEntries mX7_cutEntries 1 [.ref 27, .int (nI k)] zSH gi gl (zRT r) (fun gi' gl' gr' => gi' = fCutA gi k E ∧ gl' = gl ∧ gr' = zRT r) := by
  refine zC_v_of [some (.ref 27), some (.int (nI k)), none] (by decide) rfl rfl (Nat.le_of_ble_eq_true rfl) (fun x => ?_)
  refine zA_iload_1 dX7_cutEntries_0 ?_
  refine zA_istore_2 dX7_cutEntries_1 rfl ?_
  have key : ∀ (m i : Nat), i + m = E - k → zB_v x g mX7_cutEntries 1 zSH (fun gi' gl' gr' => gi' = fCutA gi k E ∧ gl' = gl ∧ gr' = zRT r) 2 [some (.ref 27), some (.int (nI k)), some (.int (nI (k + i)))] [] (fCutLA gi k i) gl (zRT r) := by
    intro m
    induction m with
    | zero =>
      intro i hi_i
      refine zA_iload_2 dX7_cutEntries_2 ?_
      refine zA_aload_0 dX7_cutEntries_3 ?_
      refine zA_getI (v := (nI E)) sh_27 fX7_36 dX7_cutEntries_4 rfl ((congrFun (fCutLA_nq gi k (by decide) i) 8).trans hE) ?_
      refine zA_icmp_geN 40 dX7_cutEntries_7 (by decide) (by omega) (by omega) (fun h => ?_) (fun h => ?_)
      · have e : k + i = E := by omega
        refine zA_aload_0 dX7_cutEntries_40 ?_
        refine zA_aload_0 dX7_cutEntries_41 ?_
        refine zA_getI (v := (nI E)) sh_27 fX7_36 dX7_cutEntries_42 rfl ((congrFun (fCutLA_nq gi k (by decide) i) 8).trans hE) ?_
        refine zA_iload_1 dX7_cutEntries_45 ?_
        refine zA_cSi (ct_min g _ _ _ (nI E) (nI k)) calJ9_min_7cf53 stJ9_min_7cf53 lX7_43 dX7_cutEntries_46 (by decide) (by simp [Value.category]) rfl (Nat.le_refl _) (Nat.le_refl _) (fun zz gi' gl' gr' ⟨hz, e1, e2, e3⟩ => ?_)
        subst hz e1 e2 e3
        have hm : zmin (nI E) (nI k) = nI k := zmin_nI hk (by omega)
        refine zS_putI sh_27 fX7_36 dX7_cutEntries_49 rfl rfl ?_
        rw [hm]
        exact zB_vret rfl dX7_cutEntries_52 (⟨by unfold fCutA; rw [show E - k = i by omega], rfl, rfl⟩)
      · exact absurd h (by omega)
    | succ m ih_i =>
      intro i hi_i
      refine zA_iload_2 dX7_cutEntries_2 ?_
      refine zA_aload_0 dX7_cutEntries_3 ?_
      refine zA_getI (v := (nI E)) sh_27 fX7_36 dX7_cutEntries_4 rfl ((congrFun (fCutLA_nq gi k (by decide) i) 8).trans hE) ?_
      refine zA_icmp_geN 40 dX7_cutEntries_7 (by decide) (by omega) (by omega) (fun h => ?_) (fun h => ?_)
      · exact absurd h (by omega)
      · have hn1 := (hn (k + i) (by omega)).2
        have hv1 := (hv (k + i) (by omega)).2
        refine zA_aload_0 dX7_cutEntries_10 ?_
        refine zA_getR sh_27 fX7_33 dX7_cutEntries_11 rfl (rt_27_7 _) ?_
        refine zA_aload_0 dX7_cutEntries_14 ?_
        refine zA_getR sh_27 fX7_11 dX7_cutEntries_15 rfl (rt_27_0 _) ?_
        refine zA_iload_2 dX7_cutEntries_18 ?_
        refine zA_iald (v := (nI (zi (gi 28 (k + i))))) (k + i) sh_28 dX7_cutEntries_19 rfl (by omega) (by decide) ((congrFun (fCutLA_nq gi k (by decide) i) _).trans (hn _ (by omega)).1) ?_
        refine zA_iconst (nI 3) dX7_cutEntries_20 ic_3 ?_
        refine zA_imulN dX7_cutEntries_21 ?_
        refine zA_aload_0 dX7_cutEntries_22 ?_
        refine zA_getR sh_27 fX7_15 dX7_cutEntries_23 rfl (rt_27_1 _) ?_
        refine zA_iload_2 dX7_cutEntries_26 ?_
        refine zA_iald (v := (nI (zi (gi 29 (k + i))))) (k + i) sh_29 dX7_cutEntries_27 rfl (by omega) (by decide) ((congrFun (fCutLA_nq gi k (by decide) i) _).trans (hv _ (by omega)).1) ?_
        refine zA_iaddN dX7_cutEntries_28 ?_
        refine zA_dup2 dX7_cutEntries_29 rfl rfl ?_
        refine zA_iald (v := ((fCutLA gi k i) 35 (((zi (gi 28 (k + i))) * 3) + (zi (gi 29 (k + i)))))) (((zi (gi 28 (k + i))) * 3) + (zi (gi 29 (k + i)))) sh_35 dX7_cutEntries_30 rfl (by omega) (by decide) rfl ?_
        refine zA_iconst (nI 1) dX7_cutEntries_31 ic_1 ?_
        refine zA_isub dX7_cutEntries_32 ?_
        refine zS_iast (((zi (gi 28 (k + i))) * 3) + (zi (gi 29 (k + i)))) sh_35 dX7_cutEntries_33 rfl (by omega) (by decide) ?_
        refine zA_iinc_2 (v := nI (k + i + 1)) dX7_cutEntries_34 (zn_inc _) rfl ?_
        refine zA_goto 2 dX7_cutEntries_37 (by decide) ?_
        exact ih_i (i + 1) (by omega)
  exact key (E - k) 0 (by omega)
theorem ct_hasPlanB (g : zm_G) (gi : zm_I) (gl : zm_J) (r : Nat) {n v : Nat} (hn : n < 4) (hv : v < 3)  : zC_i g yX7_hasPlan mX7_hasPlan 0 [.ref 76, .int (nI n), .int (nI v)] zSH gi gl (zRT r) (fun z gi' gl' gr' => z = zb (¬ gi 84 (n * 3 + v) ≤ 0) ∧ gi' = gi ∧ gl' = gl ∧ gr' = zRT r) := by
  refine zC_i_of [some (.ref 76), some (.int (nI n)), some (.int (nI v))] (by decide) rfl rfl (Nat.le_of_ble_eq_true rfl) (fun x => ?_)
  refine zA_aload_0 dX7_hasPlan_0 ?_
  refine zA_getR sh_76 fX7_33 dX7_hasPlan_1 rfl (rt_76_7 _) ?_
  refine zA_iload_1 dX7_hasPlan_4 ?_
  refine zA_iconst (nI 3) dX7_hasPlan_5 ic_3 ?_
  refine zA_imulN dX7_hasPlan_6 ?_
  refine zA_iload_2 dX7_hasPlan_7 ?_
  refine zA_iaddN dX7_hasPlan_8 ?_
  refine zA_iald (v := (gi 84 ((n * 3) + v))) ((n * 3) + v) sh_84 dX7_hasPlan_9 rfl (by omega) (by decide) rfl ?_
  refine zA_if_le 17 dX7_hasPlan_10 (by decide) (fun h => ?_) (fun h => ?_)
  · refine zA_iconst (nI 0) dX7_hasPlan_17 ic_0 ?_
    exact zB_zret rfl dX7_hasPlan_18 (by decide) (⟨(zb_f (fun z => z h)).symm, rfl, rfl, rfl⟩)
  · refine zA_iconst (nI 1) dX7_hasPlan_13 ic_1 ?_
    refine zA_goto 18 dX7_hasPlan_14 (by decide) ?_
    exact zB_zret rfl dX7_hasPlan_18 (by decide) (⟨(zb_t h).symm, rfl, rfl, rfl⟩)
def fAddEB (gi : zm_I) (E n v : Nat) (a p : Int32) : zm_I := zs (zs (zs (zs (zs (zs gi 77 E (nI n)) 78 E (nI v)) 79 E a) 80 E p) 84 (n * 3 + v) (gi 84 (n * 3 + v) + nI 1)) 76 8 (nI (E + 1))
theorem ct_addEntryB (g : zm_G) (gi : zm_I) (gl : zm_J) (r : Nat) {E n v : Nat} (hE : gi 76 8 = nI E) (he : E < 27) (hn : n < 4) (hv : v < 3) (a p : Int32)  : zC_i g yX7_addEntry mX7_addEntry 0 [.ref 76, .int (nI n), .int (nI v), .int a, .int p] zSH gi gl (zRT r) (fun z gi' gl' gr' => z = nI E ∧ gi' = fAddEB gi E n v a p ∧ gl' = gl ∧ gr' = zRT r) := by
  refine zC_i_of [some (.ref 76), some (.int (nI n)), some (.int (nI v)), some (.int a), some (.int p)] (by decide) rfl rfl (Nat.le_of_ble_eq_true rfl) (fun x => ?_)
  refine zA_aload_0 dX7_addEntry_0 ?_
  refine zA_getI (v := (nI E)) sh_76 fX7_36 dX7_addEntry_1 rfl hE ?_
  refine zA_bipush (nI 27) dX7_addEntry_4 bc_27 ?_
  refine zA_icmp_ltN 11 dX7_addEntry_6 (by decide) (by omega) (by omega) (fun h => ?_) (fun h => ?_)
  · refine zA_aload_0 dX7_addEntry_11 ?_
    refine zA_getR sh_76 fX7_11 dX7_addEntry_12 rfl (rt_76_0 _) ?_
    refine zA_aload_0 dX7_addEntry_15 ?_
    refine zA_getI (v := (nI E)) sh_76 fX7_36 dX7_addEntry_16 rfl hE ?_
    refine zA_iload_1 dX7_addEntry_19 ?_
    refine zS_iast E sh_77 dX7_addEntry_20 rfl (by omega) (by decide) ?_
    refine zA_aload_0 dX7_addEntry_21 ?_
    refine zA_getR sh_76 fX7_15 dX7_addEntry_22 rfl (rt_76_1 _) ?_
    refine zA_aload_0 dX7_addEntry_25 ?_
    refine zA_getI (v := (nI E)) sh_76 fX7_36 dX7_addEntry_26 rfl hE ?_
    refine zA_iload_2 dX7_addEntry_29 ?_
    refine zS_iast E sh_78 dX7_addEntry_30 rfl (by omega) (by decide) ?_
    refine zA_aload_0 dX7_addEntry_31 ?_
    refine zA_getR sh_76 fX7_18 dX7_addEntry_32 rfl (rt_76_2 _) ?_
    refine zA_aload_0 dX7_addEntry_35 ?_
    refine zA_getI (v := (nI E)) sh_76 fX7_36 dX7_addEntry_36 rfl hE ?_
    refine zA_iload_3 dX7_addEntry_39 ?_
    refine zS_iast E sh_79 dX7_addEntry_40 rfl (by omega) (by decide) ?_
    refine zA_aload_0 dX7_addEntry_41 ?_
    refine zA_getR sh_76 fX7_21 dX7_addEntry_42 rfl (rt_76_3 _) ?_
    refine zA_aload_0 dX7_addEntry_45 ?_
    refine zA_getI (v := (nI E)) sh_76 fX7_36 dX7_addEntry_46 rfl hE ?_
    refine zA_iload_4 dX7_addEntry_49 ?_
    refine zS_iast E sh_80 dX7_addEntry_51 rfl (by omega) (by decide) ?_
    refine zA_aload_0 dX7_addEntry_52 ?_
    refine zA_getR sh_76 fX7_33 dX7_addEntry_53 rfl (rt_76_7 _) ?_
    refine zA_iload_1 dX7_addEntry_56 ?_
    refine zA_iconst (nI 3) dX7_addEntry_57 ic_3 ?_
    refine zA_imulN dX7_addEntry_58 ?_
    refine zA_iload_2 dX7_addEntry_59 ?_
    refine zA_iaddN dX7_addEntry_60 ?_
    refine zA_dup2 dX7_addEntry_61 rfl rfl ?_
    refine zA_iald (v := (gi 84 (n * 3 + v))) ((n * 3) + v) sh_84 dX7_addEntry_62 rfl (by omega) (by decide) rfl ?_
    refine zA_iconst (nI 1) dX7_addEntry_63 ic_1 ?_
    refine zA_iadd dX7_addEntry_64 ?_
    refine zS_iast ((n * 3) + v) sh_84 dX7_addEntry_65 rfl (by omega) (by decide) ?_
    refine zA_aload_0 dX7_addEntry_66 ?_
    refine zA_dup dX7_addEntry_67 rfl ?_
    refine zA_getI (v := (nI E)) sh_76 fX7_36 dX7_addEntry_68 rfl hE ?_
    refine zA_iconst (nI 1) dX7_addEntry_71 ic_1 ?_
    refine zA_iaddN dX7_addEntry_72 ?_
    refine zS_putI sh_76 fX7_36 dX7_addEntry_73 rfl rfl ?_
    refine zA_aload_0 dX7_addEntry_76 ?_
    refine zA_getI (v := (nI (E + 1))) sh_76 fX7_36 dX7_addEntry_77 rfl rfl ?_
    refine zA_iconst (nI 1) dX7_addEntry_80 ic_1 ?_
    refine zA_isubN dX7_addEntry_81 (by omega) ?_
    exact zB_iret rfl dX7_addEntry_82 (⟨rfl, rfl, rfl, rfl⟩)
  · exact absurd h (by omega)
def fAddHB (gi : zm_I) (K : Nat) (n p v : Int32) : zm_I := zs (zs (zs (zs gi 81 K n) 82 K p) 83 K v) 76 9 (nI (K + 1))
theorem ct_addHandB (g : zm_G) (gi : zm_I) (gl : zm_J) (r : Nat) {K : Nat} (hK : gi 76 9 = nI K) (hk : K < 12) (n p v : Int32)  : zC_i g yX7_addHand mX7_addHand 0 [.ref 76, .int n, .int p, .int v] zSH gi gl (zRT r) (fun z gi' gl' gr' => z = nI K ∧ gi' = fAddHB gi K n p v ∧ gl' = gl ∧ gr' = zRT r) := by
  refine zC_i_of [some (.ref 76), some (.int n), some (.int p), some (.int v)] (by decide) rfl rfl (Nat.le_of_ble_eq_true rfl) (fun x => ?_)
  refine zA_aload_0 dX7_addHand_0 ?_
  refine zA_getR sh_76 fX7_24 dX7_addHand_1 rfl (rt_76_4 _) ?_
  refine zA_aload_0 dX7_addHand_4 ?_
  refine zA_getI (v := (nI K)) sh_76 fX7_40 dX7_addHand_5 rfl hK ?_
  refine zA_iload_1 dX7_addHand_8 ?_
  refine zS_iast K sh_81 dX7_addHand_9 rfl (by omega) (by decide) ?_
  refine zA_aload_0 dX7_addHand_10 ?_
  refine zA_getR sh_76 fX7_27 dX7_addHand_11 rfl (rt_76_5 _) ?_
  refine zA_aload_0 dX7_addHand_14 ?_
  refine zA_getI (v := (nI K)) sh_76 fX7_40 dX7_addHand_15 rfl hK ?_
  refine zA_iload_2 dX7_addHand_18 ?_
  refine zS_iast K sh_82 dX7_addHand_19 rfl (by omega) (by decide) ?_
  refine zA_aload_0 dX7_addHand_20 ?_
  refine zA_getR sh_76 fX7_30 dX7_addHand_21 rfl (rt_76_6 _) ?_
  refine zA_aload_0 dX7_addHand_24 ?_
  refine zA_getI (v := (nI K)) sh_76 fX7_40 dX7_addHand_25 rfl hK ?_
  refine zA_iload_3 dX7_addHand_28 ?_
  refine zS_iast K sh_83 dX7_addHand_29 rfl (by omega) (by decide) ?_
  refine zA_aload_0 dX7_addHand_30 ?_
  refine zA_dup dX7_addHand_31 rfl ?_
  refine zA_getI (v := (nI K)) sh_76 fX7_40 dX7_addHand_32 rfl hK ?_
  refine zA_iconst (nI 1) dX7_addHand_35 ic_1 ?_
  refine zA_iaddN dX7_addHand_36 ?_
  refine zS_putI sh_76 fX7_40 dX7_addHand_37 rfl rfl ?_
  refine zA_aload_0 dX7_addHand_40 ?_
  refine zA_getI (v := (nI (K + 1))) sh_76 fX7_40 dX7_addHand_41 rfl rfl ?_
  refine zA_iconst (nI 1) dX7_addHand_44 ic_1 ?_
  refine zA_isubN dX7_addHand_45 (by omega) ?_
  exact zB_iret rfl dX7_addHand_46 (⟨rfl, rfl, rfl, rfl⟩)
def fCutLB (gi : zm_I) (k : Nat) : Nat → zm_I
  | 0 => gi
  | m + 1 => zs (fCutLB gi k m) 84 (zi (gi 77 (k + m)) * 3 + zi (gi 78 (k + m))) (fCutLB gi k m 84 (zi (gi 77 (k + m)) * 3 + zi (gi 78 (k + m))) - nI 1)
theorem fCutLB_nq (gi : zm_I) (k : Nat) {a : Nat} (h : a ≠ 84) : ∀ m, fCutLB gi k m a = gi a
  | 0 => rfl
  | m + 1 => by rw [fCutLB, zs_nq h, fCutLB_nq gi k h m]
def fCutB (gi : zm_I) (k E : Nat) : zm_I := zs (fCutLB gi k (E - k)) 76 8 (nI k)
theorem ct_cutEntriesB (g : zm_G) (gi : zm_I) (gl : zm_J) (r : Nat) {k E : Nat} (hE : gi 76 8 = nI E) (he : E ≤ 27) (hk : k ≤ E) (hn : ∀ i, i < E → zx (gi 77 i) 4) (hv : ∀ i, i < E → zx (gi 78 i) 3)  : zC_v g yX7_cutEntries mX7_cutEntries 1 [.ref 76, .int (nI k)] zSH gi gl (zRT r) (fun gi' gl' gr' => gi' = fCutB gi k E ∧ gl' = gl ∧ gr' = zRT r) := by
  refine zC_v_of [some (.ref 76), some (.int (nI k)), none] (by decide) rfl rfl (Nat.le_of_ble_eq_true rfl) (fun x => ?_)
  refine zA_iload_1 dX7_cutEntries_0 ?_
  refine zA_istore_2 dX7_cutEntries_1 rfl ?_
  have key : ∀ (m i : Nat), i + m = E - k → zB_v x g mX7_cutEntries 1 zSH (fun gi' gl' gr' => gi' = fCutB gi k E ∧ gl' = gl ∧ gr' = zRT r) 2 [some (.ref 76), some (.int (nI k)), some (.int (nI (k + i)))] [] (fCutLB gi k i) gl (zRT r) := by
    intro m
    induction m with
    | zero =>
      intro i hi_i
      refine zA_iload_2 dX7_cutEntries_2 ?_
      refine zA_aload_0 dX7_cutEntries_3 ?_
      refine zA_getI (v := (nI E)) sh_76 fX7_36 dX7_cutEntries_4 rfl ((congrFun (fCutLB_nq gi k (by decide) i) 8).trans hE) ?_
      refine zA_icmp_geN 40 dX7_cutEntries_7 (by decide) (by omega) (by omega) (fun h => ?_) (fun h => ?_)
      · have e : k + i = E := by omega
        refine zA_aload_0 dX7_cutEntries_40 ?_
        refine zA_aload_0 dX7_cutEntries_41 ?_
        refine zA_getI (v := (nI E)) sh_76 fX7_36 dX7_cutEntries_42 rfl ((congrFun (fCutLB_nq gi k (by decide) i) 8).trans hE) ?_
        refine zA_iload_1 dX7_cutEntries_45 ?_
        refine zA_cSi (ct_min g _ _ _ (nI E) (nI k)) calJ9_min_7cf53 stJ9_min_7cf53 lX7_43 dX7_cutEntries_46 (by decide) (by simp [Value.category]) rfl (Nat.le_refl _) (Nat.le_refl _) (fun zz gi' gl' gr' ⟨hz, e1, e2, e3⟩ => ?_)
        subst hz e1 e2 e3
        have hm : zmin (nI E) (nI k) = nI k := zmin_nI hk (by omega)
        refine zS_putI sh_76 fX7_36 dX7_cutEntries_49 rfl rfl ?_
        rw [hm]
        exact zB_vret rfl dX7_cutEntries_52 (⟨by unfold fCutB; rw [show E - k = i by omega], rfl, rfl⟩)
      · exact absurd h (by omega)
    | succ m ih_i =>
      intro i hi_i
      refine zA_iload_2 dX7_cutEntries_2 ?_
      refine zA_aload_0 dX7_cutEntries_3 ?_
      refine zA_getI (v := (nI E)) sh_76 fX7_36 dX7_cutEntries_4 rfl ((congrFun (fCutLB_nq gi k (by decide) i) 8).trans hE) ?_
      refine zA_icmp_geN 40 dX7_cutEntries_7 (by decide) (by omega) (by omega) (fun h => ?_) (fun h => ?_)
      · exact absurd h (by omega)
      · have hn1 := (hn (k + i) (by omega)).2
        have hv1 := (hv (k + i) (by omega)).2
        refine zA_aload_0 dX7_cutEntries_10 ?_
        refine zA_getR sh_76 fX7_33 dX7_cutEntries_11 rfl (rt_76_7 _) ?_
        refine zA_aload_0 dX7_cutEntries_14 ?_
        refine zA_getR sh_76 fX7_11 dX7_cutEntries_15 rfl (rt_76_0 _) ?_
        refine zA_iload_2 dX7_cutEntries_18 ?_
        refine zA_iald (v := (nI (zi (gi 77 (k + i))))) (k + i) sh_77 dX7_cutEntries_19 rfl (by omega) (by decide) ((congrFun (fCutLB_nq gi k (by decide) i) _).trans (hn _ (by omega)).1) ?_
        refine zA_iconst (nI 3) dX7_cutEntries_20 ic_3 ?_
        refine zA_imulN dX7_cutEntries_21 ?_
        refine zA_aload_0 dX7_cutEntries_22 ?_
        refine zA_getR sh_76 fX7_15 dX7_cutEntries_23 rfl (rt_76_1 _) ?_
        refine zA_iload_2 dX7_cutEntries_26 ?_
        refine zA_iald (v := (nI (zi (gi 78 (k + i))))) (k + i) sh_78 dX7_cutEntries_27 rfl (by omega) (by decide) ((congrFun (fCutLB_nq gi k (by decide) i) _).trans (hv _ (by omega)).1) ?_
        refine zA_iaddN dX7_cutEntries_28 ?_
        refine zA_dup2 dX7_cutEntries_29 rfl rfl ?_
        refine zA_iald (v := ((fCutLB gi k i) 84 (((zi (gi 77 (k + i))) * 3) + (zi (gi 78 (k + i)))))) (((zi (gi 77 (k + i))) * 3) + (zi (gi 78 (k + i)))) sh_84 dX7_cutEntries_30 rfl (by omega) (by decide) rfl ?_
        refine zA_iconst (nI 1) dX7_cutEntries_31 ic_1 ?_
        refine zA_isub dX7_cutEntries_32 ?_
        refine zS_iast (((zi (gi 77 (k + i))) * 3) + (zi (gi 78 (k + i)))) sh_84 dX7_cutEntries_33 rfl (by omega) (by decide) ?_
        refine zA_iinc_2 (v := nI (k + i + 1)) dX7_cutEntries_34 (zn_inc _) rfl ?_
        refine zA_goto 2 dX7_cutEntries_37 (by decide) ?_
        exact ih_i (i + 1) (by omega)
  exact key (E - k) 0 (by omega)
