theorem fHanS_nq {q n a : Nat} (h : a ≠ 70) (M : zm_I) (i : Nat) : fHanS q n M i a = M a := by
  unfold fHanS
  split
  · split
    · rfl
    · split
      · rfl
      · split
        · exact zs_nq h
        · rfl
  · rfl
theorem fHanS_keep {q n W Pn E K : Nat} {M : zm_I} (hR : zRs q W Pn E K M) (hd : zRd W Pn M) {i : Nat} (hi : i < K) : zRd W Pn (fHanS q n M i) := by
  refine ⟨by rw [fHanS_nq (by decide)]; exact hd.1, fun p hp => ?_⟩
  have hv := (hR.2.2.2.2.2.2.2.2.2.1 i hi).2.2.2
  have hW3 := hR.2.1
  unfold fHanS
  split
  · split
    · exact hd.2 p hp
    · split
      · exact hd.2 p hp
      · split
        · rw [zs_at]
          split
          · exact zx_of hv (by omega)
          · exact hd.2 p hp
        · exact hd.2 p hp
  · exact hd.2 p hp
theorem zit_han {q n W Pn E K : Nat} {M : zm_I} (hq : q = 27 ∨ q = 76) (hR : zRs q W Pn E K M) (hd : zRd W Pn M) : ∀ i, i ≤ K → zAg M (zit (fHanS q n) M i) ∧ zRd W Pn (zit (fHanS q n) M i)
  | 0, _ => ⟨zAg.rf _, hd⟩
  | i + 1, hi => by
    obtain ⟨h1, h2⟩ := zit_han hq hR hd i (by omega)
    exact ⟨h1.tr (fun a ha => fHanS_nq (by omega) _ _), fHanS_keep (zRs_ag hq h1 hR) h2 (by omega)⟩
theorem fBeg1_at (M : zm_I) : ∀ n v, zit fBeg1S M n 67 v = if v < n then M 20 v else M 67 v
  | 0, v => by rw [if_neg (Nat.not_lt_zero v)]; rfl
  | n + 1, v => by
    show zs (zit fBeg1S M n) 67 n (zit fBeg1S M n 20 n) 67 v = _
    rw [zit_nq (fBeg1S_nq (by decide)) M n]
    by_cases h : v = n
    · subst h; rw [zs_eq, if_pos (by omega)]
    · rw [zs_nj h, fBeg1_at M n v]
      by_cases h2 : v < n
      · rw [if_pos h2, if_pos (by omega)]
      · rw [if_neg h2, if_neg (by omega)]
theorem fBeg2_at (M : zm_I) : ∀ n v, n ≤ 4 → zit fBeg2S M n 70 v = if v < n then M (23 + v) 3 else M 70 v
  | 0, v, _ => by rw [if_neg (Nat.not_lt_zero v)]; rfl
  | n + 1, v, hn => by
    show zs (zit fBeg2S M n) 70 n (zit fBeg2S M n (23 + n) 3) 70 v = _
    rw [zit_nq (fBeg2S_nq (by omega)) M n]
    by_cases h : v = n
    · subst h; rw [zs_eq, if_pos (by omega)]
    · rw [zs_nj h, fBeg2_at M n v (by omega)]
      by_cases h2 : v < n
      · rw [if_pos h2, if_pos (by omega)]
      · rw [if_neg h2, if_neg (by omega)]
theorem fBegin_ag (gi : zm_I) (W Pn : Nat) : zAg gi (fBegin gi W Pn) := fun a ha => by
  unfold fBegin
  rw [zit_nq (fBeg2S_nq (by omega)), zit_nq (fBeg1S_nq (by omega)), fBeg0_nq (by omega) (by omega) (by omega) (by omega) (by omega)]
theorem fBegin_rd {q W Pn E K : Nat} {gi : zm_I} (hR : zRs q W Pn E K gi) : zRd W Pn (fBegin gi W Pn) := by
  have h4 := hR.2.2.2.1
  unfold fBegin
  refine ⟨fun v hv => ?_, fun p hp => ?_⟩
  · rw [zit_nq (fBeg2S_nq (by decide)), fBeg1_at, if_pos hv, fBeg0_nq (by decide) (by decide) (by decide) (by decide) (by decide)]
    exact hR.2.2.2.2.2.2.2.2.2.2.2.1 v hv
  · rw [fBeg2_at _ _ _ h4, if_pos hp, zit_nq (fBeg1S_nq (by omega)), fBeg0_nq (by omega) (by omega) (by omega) (by omega) (by omega)]
    exact (hR.2.2.2.2.2.2.2.2.2.2.1 p hp).2
def zsh (sh : Int32) (n : Nat) : Nat := (sh >>> (nI (2 * n) &&& 31)).toBitVec.toNat % 2 ^ 2
theorem zsh_eq (sh : Int32) (n : Nat) : (sh >>> (nI (2 * n) &&& 31)) &&& nI 3 = nI (zsh sh n) := pk_and _ 2 (by decide)
theorem zsh_lt (sh : Int32) (n : Nat) : zsh sh n < 4 := Nat.mod_lt _ (by decide)
theorem zRT57 (r q : Nat) : ∀ j, j ≠ 14 → zRT r 57 j = zRT q 57 j
  | 0, _ => rfl
  | 1, _ => rfl
  | 2, _ => rfl
  | 3, _ => rfl
  | 4, _ => rfl
  | 5, _ => rfl
  | 6, _ => rfl
  | 7, _ => rfl
  | 8, _ => rfl
  | 9, _ => rfl
  | 10, _ => rfl
  | 11, _ => rfl
  | 12, _ => rfl
  | 13, _ => rfl
  | 14, h => absurd rfl h
  | n + 15, _ => rfl
theorem zRT_put (r q : Nat) : va_up (zRT r) 57 (va_up (zRT r 57) 14 (some q)) = zRT q := by
  funext k
  by_cases h : k = 57
  · subst h
    rw [va_up_self]
    funext j
    by_cases hj : j = 14
    · subst hj; rw [va_up_self]; rfl
    · rw [zm_une hj]; exact zRT57 r q j hj
  · rw [zm_une h]
    unfold zRT
    split <;> first | rfl | (exfalso; exact h rfl)
def fNi0 (sh : Int32) (n : Nat) (M : zm_I) : zm_I := zs (zs (zs M 57 15 (nI n)) 57 16 (nI (zsh sh n))) 57 17 (nI 0)
def fVanS (q E n s : Nat) (P : zm_I × zm_J) (w : Nat) : zm_I × zm_J := if P.1 (q + 8) (n * 3 + w) ≤ 0 then P else fTour q E w n s P
def fNiS (q : Nat) (sh : Int32) (W Pn E K : Nat) (P : zm_I × zm_J) (n : Nat) : zm_I × zm_J :=
  (zit (fEnd2S n) (zit (fEnd1S n) (zit2 (fVanS q E n (zsh sh n)) (zit (fHanS q n) (fNi0 sh n P.1) K, P.2) W).1 W) Pn, (zit2 (fVanS q E n (zsh sh n)) (zit (fHanS q n) (fNi0 sh n P.1) K, P.2) W).2)
def fGo (q : Nat) (sh : Int32) (W Pn E K : Nat) (P : zm_I × zm_J) : zm_I × zm_J :=
  (zit fFineS (zit fFuelS (zit2 (fNiS q sh W Pn E K) (fBegin P.1 W Pn, P.2) 4).1 W) Pn, (zit2 (fNiS q sh W Pn E K) (fBegin P.1 W Pn, P.2) 4).2)
theorem fNi0_ag (sh : Int32) (n : Nat) (M : zm_I) : zAg M (fNi0 sh n M) := (((zAg.rf M).zs (by omega)).zs (by omega)).zs (by omega)
theorem fTour_keep {q w n s W Pn E K : Nat} {P : zm_I × zm_J} {n' s' : Nat} (hq : q = 27 ∨ q = 76) (hR : zRs q W Pn E K P.1) (hd : zRd W Pn P.1) (hN : zNi n' s' P.1) : zAg P.1 (fTour q E w n s P).1 ∧ zRd W Pn (fTour q E w n s P).1 ∧ zNi n' s' (fTour q E w n s P).1 := by
  have hA : zAg P.1 (zs (zs P.1 57 18 (nI 0)) 57 19 (nI 0)) := ((zAg.rf P.1).zs (by omega)).zs (by omega)
  have hd0 : zRd W Pn (zs (zs P.1 57 18 (nI 0)) 57 19 (nI 0)) := by unfold zRd; rw [zs_nq (by decide), zs_nq (by decide), zs_nq (by decide), zs_nq (by decide)]; exact hd
  have hN0 : zNi n' s' (zs (zs P.1 57 18 (nI 0)) 57 19 (nI 0)) := hN
  obtain ⟨h1, h2, h3⟩ := zit2_keep (w := w) (n := n) (s := s) (P := (zs (zs P.1 57 18 (nI 0)) 57 19 (nI 0), P.2)) hq (zRs_ag hq hA hR) hd0 hN0 E (Nat.le_refl _)
  exact ⟨hA.tr h1, h2, h3⟩
theorem zit2_van {q n s W Pn E K : Nat} {P : zm_I × zm_J} {n' s' : Nat} (hq : q = 27 ∨ q = 76) (hR : zRs q W Pn E K P.1) (hd : zRd W Pn P.1) (hN : zNi n' s' P.1) : ∀ i, zAg P.1 (zit2 (fVanS q E n s) P i).1 ∧ zRd W Pn (zit2 (fVanS q E n s) P i).1 ∧ zNi n' s' (zit2 (fVanS q E n s) P i).1
  | 0 => ⟨zAg.rf _, hd, hN⟩
  | i + 1 => by
    obtain ⟨h1, h2, h3⟩ := zit2_van hq hR hd hN i
    show zAg P.1 (fVanS q E n s (zit2 (fVanS q E n s) P i) i).1 ∧ zRd W Pn (fVanS q E n s (zit2 (fVanS q E n s) P i) i).1 ∧ zNi n' s' (fVanS q E n s (zit2 (fVanS q E n s) P i) i).1
    unfold fVanS
    split
    · exact ⟨h1, h2, h3⟩
    · obtain ⟨k1, k2, k3⟩ := fTour_keep (w := i) (n := n) (s := s) hq (zRs_ag hq h1 hR) h2 h3
      exact ⟨h1.tr k1, k2, k3⟩
theorem fNi0_rd {W Pn n : Nat} {sh : Int32} {M : zm_I} (hd : zRd W Pn M) : zRd W Pn (fNi0 sh n M) := by unfold zRd fNi0; rw [zs_nq (by decide), zs_nq (by decide), zs_nq (by decide), zs_nq (by decide), zs_nq (by decide), zs_nq (by decide)]; exact hd
theorem fNiS_keep {q W Pn E K n : Nat} {sh : Int32} {P : zm_I × zm_J} (hq : q = 27 ∨ q = 76) (hR : zRs q W Pn E K P.1) (hd : zRd W Pn P.1) : zAg P.1 (fNiS q sh W Pn E K P n).1 ∧ zRd W Pn (fNiS q sh W Pn E K P n).1 := by
  have a0 := fNi0_ag sh n P.1
  obtain ⟨h1, h2⟩ := zit_han (n := n) hq (zRs_ag hq a0 hR) (fNi0_rd (sh := sh) (n := n) hd) K (Nat.le_refl _)
  have hN : zNi n (zsh sh n) (zit (fHanS q n) (fNi0 sh n P.1) K) := by unfold zNi; rw [zit_nq (fHanS_nq (by decide))]; exact ⟨rfl, rfl⟩
  obtain ⟨k1, k2, k3⟩ := zit2_van (n := n) (s := zsh sh n) (P := (zit (fHanS q n) (fNi0 sh n P.1) K, P.2)) hq (zRs_ag hq (a0.tr h1) hR) h2 hN W
  unfold fNiS
  refine ⟨((a0.tr h1).tr k1).tr (fun a ha => ?_), ?_⟩
  · dsimp only
    rw [zit_nq (fEnd2S_nq (by omega)), zit_nq (fEnd1S_nq (by omega))]
  · unfold zRd
    dsimp only
    rw [zit_nq (fEnd2S_nq (by decide)), zit_nq (fEnd1S_nq (by decide)), zit_nq (fEnd2S_nq (by decide)), zit_nq (fEnd1S_nq (by decide))]
    exact k2
theorem zit2_ni {q W Pn E K : Nat} {sh : Int32} {P : zm_I × zm_J} (hq : q = 27 ∨ q = 76) (hR : zRs q W Pn E K P.1) (hd : zRd W Pn P.1) : ∀ i, zAg P.1 (zit2 (fNiS q sh W Pn E K) P i).1 ∧ zRd W Pn (zit2 (fNiS q sh W Pn E K) P i).1
  | 0 => ⟨zAg.rf _, hd⟩
  | i + 1 => by
    obtain ⟨h1, h2⟩ := zit2_ni hq hR hd i
    obtain ⟨k1, k2⟩ := fNiS_keep (n := i) (sh := sh) hq (zRs_ag hq h1 hR) h2
    exact ⟨h1.tr k1, k2⟩
theorem ct_handOnA (g : zm_G) (gi : zm_I) (gl : zm_J) {W Pn E K n s : Nat} (hR : zRs 27 W Pn E K gi) (hd : zRd W Pn gi) (hN : zNi n s gi) (hn : n < 4)  : zC_v g yX0_handOn mX0_handOn 1 [.ref 57] zSH gi gl (zRT 27) (fun gi' gl' gr' => gi' = zit (fHanS 27 n) gi K ∧ gl' = gl ∧ gr' = zRT 27) := by
  refine zC_v_of [some (.ref 57), none, none, none, none, none] (by decide) rfl rfl (Nat.le_of_ble_eq_true rfl) (fun x => ?_)
  refine zA_iconst (nI 0) dX0_handOn_0 ic_0 ?_
  refine zA_istore_1 dX0_handOn_1 rfl ?_
  have key : ∀ (m i : Nat) (l2 l3 l4 l5 : Option Value), i + m = K → zB_v x g mX0_handOn 1 zSH (fun gi' gl' gr' => gi' = zit (fHanS 27 n) gi K ∧ gl' = gl ∧ gr' = zRT 27) 2 [some (.ref 57), some (.int (nI i)), l2, l3, l4, l5] [] (zit (fHanS 27 n) gi i) gl (zRT 27) := by
    intro m
    induction m with
    | zero =>
      intro i l2 l3 l4 l5 hi
      obtain ⟨kA, kd⟩ := zit_han (n := n) (by decide) hR hd i (by omega)
      have kR := zRs_ag (q := 27) (by decide) kA hR
      have kN : zNi n s (zit (fHanS 27 n) gi i) := by unfold zNi; rw [zit_nq (fHanS_nq (by decide))]; exact hN
      generalize hX : zit (fHanS 27 n) gi i = X at kA kd kN kR ⊢
      obtain ⟨k1, k2, k3, k4, k5, k6, k7, k8, k9, k10, k11, k12, k13⟩ := id kR
      refine zA_iload_1 dX0_handOn_2 ?_
      refine zA_aload_0 dX0_handOn_3 ?_
      refine zA_getR sh_57 fX0_55 dX0_handOn_4 rfl (rt_57_14 _) ?_
      refine zA_getI (v := (nI K)) sh_27 fX0_119 dX0_handOn_7 rfl k8 ?_
      refine zA_icmp_geN 130 dX0_handOn_10 (by decide) (by omega) (by omega) (fun h => ?_) (fun h => ?_)
      · have e : i = K := by omega
        exact zB_vret rfl dX0_handOn_130 (⟨by rw [← hX, e], rfl, rfl⟩)
      · exact absurd h (by omega)
    | succ m ih =>
      intro i l2 l3 l4 l5 hi
      obtain ⟨kA, kd⟩ := zit_han (n := n) (by decide) hR hd i (by omega)
      have kR := zRs_ag (q := 27) (by decide) kA hR
      have kN : zNi n s (zit (fHanS 27 n) gi i) := by unfold zNi; rw [zit_nq (fHanS_nq (by decide))]; exact hN
      generalize hX : zit (fHanS 27 n) gi i = X at kA kd kN kR ⊢
      obtain ⟨k1, k2, k3, k4, k5, k6, k7, k8, k9, k10, k11, k12, k13⟩ := id kR
      refine zA_iload_1 dX0_handOn_2 ?_
      refine zA_aload_0 dX0_handOn_3 ?_
      refine zA_getR sh_57 fX0_55 dX0_handOn_4 rfl (rt_57_14 _) ?_
      refine zA_getI (v := (nI K)) sh_27 fX0_119 dX0_handOn_7 rfl k8 ?_
      refine zA_icmp_geN 130 dX0_handOn_10 (by decide) (by omega) (by omega) (fun h => ?_) (fun h => ?_)
      · exact absurd h (by omega)
      · obtain ⟨e1, e2, e3⟩ := k10 i h
        have e2l : zi (X 33 i) < Pn := e2.2
        have e3l : zi (X 34 i) < W := e3.2
        have e4 := kd.2 (zi (X 33 i)) e2l
        have e4l := e4.2
        refine zA_aload_0 dX0_handOn_13 ?_
        refine zA_getR sh_57 fX0_55 dX0_handOn_14 rfl (rt_57_14 _) ?_
        refine zA_getR sh_27 fX0_122 dX0_handOn_17 rfl (rt_27_4 _) ?_
        refine zA_iload_1 dX0_handOn_20 ?_
        refine zA_iald (v := (X 32 i)) i sh_32 dX0_handOn_21 rfl (by omega) (by decide) rfl ?_
        refine zA_aload_0 dX0_handOn_22 ?_
        refine zA_getI (v := (nI n)) sh_57 fX0_69 dX0_handOn_23 rfl kN.1 ?_
        refine zA_icmp_ne 124 dX0_handOn_26 (by decide) (fun c1 => ?_) (fun c1 => ?_)
        · refine zA_iinc_1 (v := nI (i + 1)) dX0_handOn_124 (zn_inc _) rfl ?_
          refine zA_goto 2 dX0_handOn_127 (by decide) ?_
          have e9 : zit (fHanS 27 n) gi (i + 1) = X := by show fHanS 27 n (zit (fHanS 27 n) gi i) i = _; rw [hX]; unfold fHanS; rw [if_neg c1]
          have h7 := fun (l2 l3 l4 l5 : Option Value) => ih (i + 1) l2 l3 l4 l5 (by omega)
          rw [e9] at h7
          exact h7 _ _ _ _
        · refine zA_aload_0 dX0_handOn_29 ?_
          refine zA_getR sh_57 fX0_55 dX0_handOn_30 rfl (rt_57_14 _) ?_
          refine zA_getR sh_27 fX0_125 dX0_handOn_33 rfl (rt_27_5 _) ?_
          refine zA_iload_1 dX0_handOn_36 ?_
          refine zA_iald (v := (nI (zi (X 33 i)))) i sh_33 dX0_handOn_37 rfl (by omega) (by decide) e2.1 ?_
          refine zA_istore_2 dX0_handOn_38 rfl ?_
          refine zA_aload_0 dX0_handOn_39 ?_
          refine zA_getR sh_57 fX0_31 dX0_handOn_40 rfl (rt_57_9 _) ?_
          refine zA_iload_2 dX0_handOn_43 ?_
          refine zA_iald (v := (nI (zi (X 70 (zi (X 33 i)))))) (zi (X 33 i)) sh_70 dX0_handOn_44 rfl (by omega) (by decide) e4.1 ?_
          refine zA_istore_3 dX0_handOn_45 rfl ?_
          refine zA_aload_0 dX0_handOn_46 ?_
          refine zA_getR sh_57 fX0_55 dX0_handOn_47 rfl (rt_57_14 _) ?_
          refine zA_getR sh_27 fX0_128 dX0_handOn_50 rfl (rt_27_6 _) ?_
          refine zA_iload_1 dX0_handOn_53 ?_
          refine zA_iald (v := (nI (zi (X 34 i)))) i sh_34 dX0_handOn_54 rfl (by omega) (by decide) e3.1 ?_
          refine zA_istore_4 dX0_handOn_55 rfl ?_
          refine zA_aload_0 dX0_handOn_57 ?_
          refine zA_getR sh_57 fX0_51 dX0_handOn_58 rfl (rt_57_1 _) ?_
          refine zA_iload_3 dX0_handOn_61 ?_
          refine zA_aload_0 dX0_handOn_62 ?_
          refine zA_getI (v := (nI n)) sh_57 fX0_69 dX0_handOn_63 rfl kN.1 ?_
          refine zA_cVi (ct_isBroken g X gl 27 (v := zi (X 70 (zi (X 33 i)))) (n := n) (by omega)) calX1_isBroken stX1_isBroken lX0_131 dX0_handOn_66 (by decide) (by simp [Value.category]) rfl (Nat.le_refl _) (Nat.le_refl _) sh_19 rfl (fun zz gi' gl' gr' ⟨hz, q1, q2, q3⟩ => ?_)
          rw [hz, q1, q2, q3]
          clear hz q1 q2 q3
          refine zA_if_neB 88 dX0_handOn_69 (by decide) (fun b1 => ?_) (fun b1 => ?_)
          · refine zA_iconst (nI 1) dX0_handOn_88 ic_1 ?_
            refine zA_goto 93 dX0_handOn_89 (by decide) ?_
            refine zA_istore_5 dX0_handOn_93 rfl ?_
            refine zA_iload_5 dX0_handOn_95 ?_
            refine zA_if_ne 124 dX0_handOn_97 (by decide) (fun _ => ?_) (fun hh => absurd hh (by decide))
            refine zA_iinc_1 (v := nI (i + 1)) dX0_handOn_124 (zn_inc _) rfl ?_
            refine zA_goto 2 dX0_handOn_127 (by decide) ?_
            have e9 : zit (fHanS 27 n) gi (i + 1) = X := by show fHanS 27 n (zit (fHanS 27 n) gi i) i = _; rw [hX]; unfold fHanS; rw [if_pos c1, if_pos b1]
            have h7 := fun (l2 l3 l4 l5 : Option Value) => ih (i + 1) l2 l3 l4 l5 (by omega)
            rw [e9] at h7
            exact h7 _ _ _ _
          · refine zA_aload_0 dX0_handOn_72 ?_
            refine zA_getR sh_57 fX0_51 dX0_handOn_73 rfl (rt_57_1 _) ?_
            refine zA_iload_4 dX0_handOn_76 ?_
            refine zA_aload_0 dX0_handOn_78 ?_
            refine zA_getI (v := (nI n)) sh_57 fX0_69 dX0_handOn_79 rfl kN.1 ?_
            refine zA_cVi (ct_isBroken g X gl 27 (v := zi (X 34 i)) (n := n) (by omega)) calX1_isBroken stX1_isBroken lX0_131 dX0_handOn_82 (by decide) (by simp [Value.category]) rfl (Nat.le_refl _) (Nat.le_refl _) sh_19 rfl (fun zz gi' gl' gr' ⟨hz, q1, q2, q3⟩ => ?_)
            rw [hz, q1, q2, q3]
            clear hz q1 q2 q3
            refine zA_if_eqB 92 dX0_handOn_85 (by decide) (fun b3 => ?_) (fun b3 => ?_)
            · refine zA_iconst (nI 0) dX0_handOn_92 ic_0 ?_
              refine zA_istore_5 dX0_handOn_93 rfl ?_
              refine zA_iload_5 dX0_handOn_95 ?_
              refine zA_if_ne 124 dX0_handOn_97 (by decide) (fun hh => absurd rfl hh) (fun _ => ?_)
              refine zA_aload_0 dX0_handOn_100 ?_
              refine zA_getR sh_57 fX0_22 dX0_handOn_101 rfl (rt_57_6 _) ?_
              refine zA_iload_3 dX0_handOn_104 ?_
              refine zA_iald (v := (X 67 (zi (X 70 (zi (X 33 i)))))) (zi (X 70 (zi (X 33 i)))) sh_67 dX0_handOn_105 rfl (by omega) (by decide) rfl ?_
              refine zA_aload_0 dX0_handOn_106 ?_
              refine zA_getR sh_57 fX0_22 dX0_handOn_107 rfl (rt_57_6 _) ?_
              refine zA_iload_4 dX0_handOn_110 ?_
              refine zA_iald (v := (X 67 (zi (X 34 i)))) (zi (X 34 i)) sh_67 dX0_handOn_112 rfl (by omega) (by decide) rfl ?_
              refine zA_icmp_ne 124 dX0_handOn_113 (by decide) (fun c2 => ?_) (fun c2 => ?_)
              · refine zA_iinc_1 (v := nI (i + 1)) dX0_handOn_124 (zn_inc _) rfl ?_
                refine zA_goto 2 dX0_handOn_127 (by decide) ?_
                have e9 : zit (fHanS 27 n) gi (i + 1) = X := by show fHanS 27 n (zit (fHanS 27 n) gi i) i = _; rw [hX]; unfold fHanS; rw [if_pos c1, if_neg b1, if_neg b3, if_neg c2]
                have h7 := fun (l2 l3 l4 l5 : Option Value) => ih (i + 1) l2 l3 l4 l5 (by omega)
                rw [e9] at h7
                exact h7 _ _ _ _
              · refine zA_aload_0 dX0_handOn_116 ?_
                refine zA_getR sh_57 fX0_31 dX0_handOn_117 rfl (rt_57_9 _) ?_
                refine zA_iload_2 dX0_handOn_120 ?_
                refine zA_iload_4 dX0_handOn_121 ?_
                refine zS_iast (zi (X 33 i)) sh_70 dX0_handOn_123 rfl (by omega) (by decide) ?_
                refine zA_iinc_1 (v := nI (i + 1)) dX0_handOn_124 (zn_inc _) rfl ?_
                refine zA_goto 2 dX0_handOn_127 (by decide) ?_
                have e9 : zit (fHanS 27 n) gi (i + 1) = zs X 70 (zi (X 33 i)) (nI (zi (X 34 i))) := by show fHanS 27 n (zit (fHanS 27 n) gi i) i = _; rw [hX]; unfold fHanS; rw [if_pos c1, if_neg b1, if_neg b3, if_pos c2]
                have h7 := fun (l2 l3 l4 l5 : Option Value) => ih (i + 1) l2 l3 l4 l5 (by omega)
                rw [e9] at h7
                exact h7 _ _ _ _
            · refine zA_iconst (nI 1) dX0_handOn_88 ic_1 ?_
              refine zA_goto 93 dX0_handOn_89 (by decide) ?_
              refine zA_istore_5 dX0_handOn_93 rfl ?_
              refine zA_iload_5 dX0_handOn_95 ?_
              refine zA_if_ne 124 dX0_handOn_97 (by decide) (fun _ => ?_) (fun hh => absurd hh (by decide))
              refine zA_iinc_1 (v := nI (i + 1)) dX0_handOn_124 (zn_inc _) rfl ?_
              refine zA_goto 2 dX0_handOn_127 (by decide) ?_
              have e9 : zit (fHanS 27 n) gi (i + 1) = X := by show fHanS 27 n (zit (fHanS 27 n) gi i) i = _; rw [hX]; unfold fHanS; rw [if_pos c1, if_neg b1, if_pos b3]
              have h7 := fun (l2 l3 l4 l5 : Option Value) => ih (i + 1) l2 l3 l4 l5 (by omega)
              rw [e9] at h7
              exact h7 _ _ _ _
  exact key K 0 none none none none (by omega)
theorem ct_handOnB (g : zm_G) (gi : zm_I) (gl : zm_J) {W Pn E K n s : Nat} (hR : zRs 76 W Pn E K gi) (hd : zRd W Pn gi) (hN : zNi n s gi) (hn : n < 4)  : zC_v g yX0_handOn mX0_handOn 1 [.ref 57] zSH gi gl (zRT 76) (fun gi' gl' gr' => gi' = zit (fHanS 76 n) gi K ∧ gl' = gl ∧ gr' = zRT 76) := by
  refine zC_v_of [some (.ref 57), none, none, none, none, none] (by decide) rfl rfl (Nat.le_of_ble_eq_true rfl) (fun x => ?_)
  refine zA_iconst (nI 0) dX0_handOn_0 ic_0 ?_
  refine zA_istore_1 dX0_handOn_1 rfl ?_
  have key : ∀ (m i : Nat) (l2 l3 l4 l5 : Option Value), i + m = K → zB_v x g mX0_handOn 1 zSH (fun gi' gl' gr' => gi' = zit (fHanS 76 n) gi K ∧ gl' = gl ∧ gr' = zRT 76) 2 [some (.ref 57), some (.int (nI i)), l2, l3, l4, l5] [] (zit (fHanS 76 n) gi i) gl (zRT 76) := by
    intro m
    induction m with
    | zero =>
      intro i l2 l3 l4 l5 hi
      obtain ⟨kA, kd⟩ := zit_han (n := n) (by decide) hR hd i (by omega)
      have kR := zRs_ag (q := 76) (by decide) kA hR
      have kN : zNi n s (zit (fHanS 76 n) gi i) := by unfold zNi; rw [zit_nq (fHanS_nq (by decide))]; exact hN
      generalize hX : zit (fHanS 76 n) gi i = X at kA kd kN kR ⊢
      obtain ⟨k1, k2, k3, k4, k5, k6, k7, k8, k9, k10, k11, k12, k13⟩ := id kR
      refine zA_iload_1 dX0_handOn_2 ?_
      refine zA_aload_0 dX0_handOn_3 ?_
      refine zA_getR sh_57 fX0_55 dX0_handOn_4 rfl (rt_57_14 _) ?_
      refine zA_getI (v := (nI K)) sh_76 fX0_119 dX0_handOn_7 rfl k8 ?_
      refine zA_icmp_geN 130 dX0_handOn_10 (by decide) (by omega) (by omega) (fun h => ?_) (fun h => ?_)
      · have e : i = K := by omega
        exact zB_vret rfl dX0_handOn_130 (⟨by rw [← hX, e], rfl, rfl⟩)
      · exact absurd h (by omega)
    | succ m ih =>
      intro i l2 l3 l4 l5 hi
      obtain ⟨kA, kd⟩ := zit_han (n := n) (by decide) hR hd i (by omega)
      have kR := zRs_ag (q := 76) (by decide) kA hR
      have kN : zNi n s (zit (fHanS 76 n) gi i) := by unfold zNi; rw [zit_nq (fHanS_nq (by decide))]; exact hN
      generalize hX : zit (fHanS 76 n) gi i = X at kA kd kN kR ⊢
      obtain ⟨k1, k2, k3, k4, k5, k6, k7, k8, k9, k10, k11, k12, k13⟩ := id kR
      refine zA_iload_1 dX0_handOn_2 ?_
      refine zA_aload_0 dX0_handOn_3 ?_
      refine zA_getR sh_57 fX0_55 dX0_handOn_4 rfl (rt_57_14 _) ?_
      refine zA_getI (v := (nI K)) sh_76 fX0_119 dX0_handOn_7 rfl k8 ?_
      refine zA_icmp_geN 130 dX0_handOn_10 (by decide) (by omega) (by omega) (fun h => ?_) (fun h => ?_)
      · exact absurd h (by omega)
      · obtain ⟨e1, e2, e3⟩ := k10 i h
        have e2l : zi (X 82 i) < Pn := e2.2
        have e3l : zi (X 83 i) < W := e3.2
        have e4 := kd.2 (zi (X 82 i)) e2l
        have e4l := e4.2
        refine zA_aload_0 dX0_handOn_13 ?_
        refine zA_getR sh_57 fX0_55 dX0_handOn_14 rfl (rt_57_14 _) ?_
        refine zA_getR sh_76 fX0_122 dX0_handOn_17 rfl (rt_76_4 _) ?_
        refine zA_iload_1 dX0_handOn_20 ?_
        refine zA_iald (v := (X 81 i)) i sh_81 dX0_handOn_21 rfl (by omega) (by decide) rfl ?_
        refine zA_aload_0 dX0_handOn_22 ?_
        refine zA_getI (v := (nI n)) sh_57 fX0_69 dX0_handOn_23 rfl kN.1 ?_
        refine zA_icmp_ne 124 dX0_handOn_26 (by decide) (fun c1 => ?_) (fun c1 => ?_)
        · refine zA_iinc_1 (v := nI (i + 1)) dX0_handOn_124 (zn_inc _) rfl ?_
          refine zA_goto 2 dX0_handOn_127 (by decide) ?_
          have e9 : zit (fHanS 76 n) gi (i + 1) = X := by show fHanS 76 n (zit (fHanS 76 n) gi i) i = _; rw [hX]; unfold fHanS; rw [if_neg c1]
          have h7 := fun (l2 l3 l4 l5 : Option Value) => ih (i + 1) l2 l3 l4 l5 (by omega)
          rw [e9] at h7
          exact h7 _ _ _ _
        · refine zA_aload_0 dX0_handOn_29 ?_
          refine zA_getR sh_57 fX0_55 dX0_handOn_30 rfl (rt_57_14 _) ?_
          refine zA_getR sh_76 fX0_125 dX0_handOn_33 rfl (rt_76_5 _) ?_
          refine zA_iload_1 dX0_handOn_36 ?_
          refine zA_iald (v := (nI (zi (X 82 i)))) i sh_82 dX0_handOn_37 rfl (by omega) (by decide) e2.1 ?_
          refine zA_istore_2 dX0_handOn_38 rfl ?_
          refine zA_aload_0 dX0_handOn_39 ?_
          refine zA_getR sh_57 fX0_31 dX0_handOn_40 rfl (rt_57_9 _) ?_
          refine zA_iload_2 dX0_handOn_43 ?_
          refine zA_iald (v := (nI (zi (X 70 (zi (X 82 i)))))) (zi (X 82 i)) sh_70 dX0_handOn_44 rfl (by omega) (by decide) e4.1 ?_
          refine zA_istore_3 dX0_handOn_45 rfl ?_
          refine zA_aload_0 dX0_handOn_46 ?_
          refine zA_getR sh_57 fX0_55 dX0_handOn_47 rfl (rt_57_14 _) ?_
          refine zA_getR sh_76 fX0_128 dX0_handOn_50 rfl (rt_76_6 _) ?_
          refine zA_iload_1 dX0_handOn_53 ?_
          refine zA_iald (v := (nI (zi (X 83 i)))) i sh_83 dX0_handOn_54 rfl (by omega) (by decide) e3.1 ?_
          refine zA_istore_4 dX0_handOn_55 rfl ?_
          refine zA_aload_0 dX0_handOn_57 ?_
          refine zA_getR sh_57 fX0_51 dX0_handOn_58 rfl (rt_57_1 _) ?_
          refine zA_iload_3 dX0_handOn_61 ?_
          refine zA_aload_0 dX0_handOn_62 ?_
          refine zA_getI (v := (nI n)) sh_57 fX0_69 dX0_handOn_63 rfl kN.1 ?_
          refine zA_cVi (ct_isBroken g X gl 76 (v := zi (X 70 (zi (X 82 i)))) (n := n) (by omega)) calX1_isBroken stX1_isBroken lX0_131 dX0_handOn_66 (by decide) (by simp [Value.category]) rfl (Nat.le_refl _) (Nat.le_refl _) sh_19 rfl (fun zz gi' gl' gr' ⟨hz, q1, q2, q3⟩ => ?_)
          rw [hz, q1, q2, q3]
          clear hz q1 q2 q3
          refine zA_if_neB 88 dX0_handOn_69 (by decide) (fun b1 => ?_) (fun b1 => ?_)
          · refine zA_iconst (nI 1) dX0_handOn_88 ic_1 ?_
            refine zA_goto 93 dX0_handOn_89 (by decide) ?_
            refine zA_istore_5 dX0_handOn_93 rfl ?_
            refine zA_iload_5 dX0_handOn_95 ?_
            refine zA_if_ne 124 dX0_handOn_97 (by decide) (fun _ => ?_) (fun hh => absurd hh (by decide))
            refine zA_iinc_1 (v := nI (i + 1)) dX0_handOn_124 (zn_inc _) rfl ?_
            refine zA_goto 2 dX0_handOn_127 (by decide) ?_
            have e9 : zit (fHanS 76 n) gi (i + 1) = X := by show fHanS 76 n (zit (fHanS 76 n) gi i) i = _; rw [hX]; unfold fHanS; rw [if_pos c1, if_pos b1]
            have h7 := fun (l2 l3 l4 l5 : Option Value) => ih (i + 1) l2 l3 l4 l5 (by omega)
            rw [e9] at h7
            exact h7 _ _ _ _
          · refine zA_aload_0 dX0_handOn_72 ?_
            refine zA_getR sh_57 fX0_51 dX0_handOn_73 rfl (rt_57_1 _) ?_
            refine zA_iload_4 dX0_handOn_76 ?_
            refine zA_aload_0 dX0_handOn_78 ?_
            refine zA_getI (v := (nI n)) sh_57 fX0_69 dX0_handOn_79 rfl kN.1 ?_
            refine zA_cVi (ct_isBroken g X gl 76 (v := zi (X 83 i)) (n := n) (by omega)) calX1_isBroken stX1_isBroken lX0_131 dX0_handOn_82 (by decide) (by simp [Value.category]) rfl (Nat.le_refl _) (Nat.le_refl _) sh_19 rfl (fun zz gi' gl' gr' ⟨hz, q1, q2, q3⟩ => ?_)
            rw [hz, q1, q2, q3]
            clear hz q1 q2 q3
            refine zA_if_eqB 92 dX0_handOn_85 (by decide) (fun b3 => ?_) (fun b3 => ?_)
            · refine zA_iconst (nI 0) dX0_handOn_92 ic_0 ?_
              refine zA_istore_5 dX0_handOn_93 rfl ?_
              refine zA_iload_5 dX0_handOn_95 ?_
              refine zA_if_ne 124 dX0_handOn_97 (by decide) (fun hh => absurd rfl hh) (fun _ => ?_)
              refine zA_aload_0 dX0_handOn_100 ?_
              refine zA_getR sh_57 fX0_22 dX0_handOn_101 rfl (rt_57_6 _) ?_
              refine zA_iload_3 dX0_handOn_104 ?_
              refine zA_iald (v := (X 67 (zi (X 70 (zi (X 82 i)))))) (zi (X 70 (zi (X 82 i)))) sh_67 dX0_handOn_105 rfl (by omega) (by decide) rfl ?_
              refine zA_aload_0 dX0_handOn_106 ?_
              refine zA_getR sh_57 fX0_22 dX0_handOn_107 rfl (rt_57_6 _) ?_
              refine zA_iload_4 dX0_handOn_110 ?_
              refine zA_iald (v := (X 67 (zi (X 83 i)))) (zi (X 83 i)) sh_67 dX0_handOn_112 rfl (by omega) (by decide) rfl ?_
              refine zA_icmp_ne 124 dX0_handOn_113 (by decide) (fun c2 => ?_) (fun c2 => ?_)
              · refine zA_iinc_1 (v := nI (i + 1)) dX0_handOn_124 (zn_inc _) rfl ?_
                refine zA_goto 2 dX0_handOn_127 (by decide) ?_
                have e9 : zit (fHanS 76 n) gi (i + 1) = X := by show fHanS 76 n (zit (fHanS 76 n) gi i) i = _; rw [hX]; unfold fHanS; rw [if_pos c1, if_neg b1, if_neg b3, if_neg c2]
                have h7 := fun (l2 l3 l4 l5 : Option Value) => ih (i + 1) l2 l3 l4 l5 (by omega)
                rw [e9] at h7
                exact h7 _ _ _ _
              · refine zA_aload_0 dX0_handOn_116 ?_
                refine zA_getR sh_57 fX0_31 dX0_handOn_117 rfl (rt_57_9 _) ?_
                refine zA_iload_2 dX0_handOn_120 ?_
                refine zA_iload_4 dX0_handOn_121 ?_
                refine zS_iast (zi (X 82 i)) sh_70 dX0_handOn_123 rfl (by omega) (by decide) ?_
                refine zA_iinc_1 (v := nI (i + 1)) dX0_handOn_124 (zn_inc _) rfl ?_
                refine zA_goto 2 dX0_handOn_127 (by decide) ?_
                have e9 : zit (fHanS 76 n) gi (i + 1) = zs X 70 (zi (X 82 i)) (nI (zi (X 83 i))) := by show fHanS 76 n (zit (fHanS 76 n) gi i) i = _; rw [hX]; unfold fHanS; rw [if_pos c1, if_neg b1, if_neg b3, if_pos c2]
                have h7 := fun (l2 l3 l4 l5 : Option Value) => ih (i + 1) l2 l3 l4 l5 (by omega)
                rw [e9] at h7
                exact h7 _ _ _ _
            · refine zA_iconst (nI 1) dX0_handOn_88 ic_1 ?_
              refine zA_goto 93 dX0_handOn_89 (by decide) ?_
              refine zA_istore_5 dX0_handOn_93 rfl ?_
              refine zA_iload_5 dX0_handOn_95 ?_
              refine zA_if_ne 124 dX0_handOn_97 (by decide) (fun _ => ?_) (fun hh => absurd hh (by decide))
              refine zA_iinc_1 (v := nI (i + 1)) dX0_handOn_124 (zn_inc _) rfl ?_
              refine zA_goto 2 dX0_handOn_127 (by decide) ?_
              have e9 : zit (fHanS 76 n) gi (i + 1) = X := by show fHanS 76 n (zit (fHanS 76 n) gi i) i = _; rw [hX]; unfold fHanS; rw [if_pos c1, if_neg b1, if_pos b3]
              have h7 := fun (l2 l3 l4 l5 : Option Value) => ih (i + 1) l2 l3 l4 l5 (by omega)
              rw [e9] at h7
              exact h7 _ _ _ _
  exact key K 0 none none none none (by omega)
