/-! what a run needs of the memory: what it leaves alone, and what it keeps in order -/
def zRs (q W Pn E K : Nat) (M : zm_I) : Prop :=
  M 19 3 = nI W ∧ W ≤ 3 ∧ M 19 4 = nI Pn ∧ Pn ≤ 4 ∧ M q 8 = nI E ∧ E ≤ 27 ∧ (∀ e, e < E → zx (M (q + 1) e) 4 ∧ zx (M (q + 2) e) W ∧ zx (M (q + 3) e) 8 ∧ zx (M (q + 4) e) Pn) ∧
  M q 9 = nI K ∧ K ≤ 12 ∧ (∀ i, i < K → zx (M (q + 5) i) 4 ∧ zx (M (q + 6) i) Pn ∧ zx (M (q + 7) i) W) ∧ (∀ p, p < Pn → zx (M (23 + p) 0) 4 ∧ zx (M (23 + p) 3) W) ∧ (∀ v, v < W → zx (M 20 v) 8) ∧ zLaw M
/-- outside of the run's own cells -/
def zAg (M M' : zm_I) : Prop := ∀ a, ¬ (57 ≤ a ∧ a ≤ 73) → M' a = M a
theorem zAg.rf (M : zm_I) : zAg M M := fun _ _ => rfl
theorem zAg.tr {A B C : zm_I} (h : zAg A B) (h2 : zAg B C) : zAg A C := fun a ha => (h2 a ha).trans (h a ha)
theorem zAg.zs {A M : zm_I} (h : zAg A M) {q j : Nat} {v : Int32} (hq : 57 ≤ q ∧ q ≤ 73) : zAg A (zs M q j v) := fun a ha => (zs_nq (fun e => ha (by rw [e]; exact hq))).trans (h a ha)
theorem zLaw_ag {M M' : zm_I} (h : zAg M M') (hL : zLaw M) : zLaw M' := by
  unfold zLaw at hL ⊢
  rw [h 37 (by omega), h 38 (by omega), h 39 (by omega), h 40 (by omega)]
  exact hL
theorem zRs_ag {q W Pn E K : Nat} {M M' : zm_I} (hq : q = 27 ∨ q = 76) (h : zAg M M') (hR : zRs q W Pn E K M) : zRs q W Pn E K M' := by
  obtain ⟨a1, a2, a3, a4, a5, a6, a7, a8, a9, a10, a11, a12, a13⟩ := hR
  have hh : ∀ k, k ≤ 7 → M' (q + k) = M (q + k) := fun k hk => h _ (by omega)
  refine ⟨by rw [h 19 (by omega)]; exact a1, a2, by rw [h 19 (by omega)]; exact a3, a4, by rw [h q (by omega)]; exact a5, a6, ?_, by rw [h q (by omega)]; exact a8, a9, ?_, fun p hp => by rw [h (23 + p) (by omega)]; exact a11 p hp, fun v hv => by rw [h 20 (by omega)]; exact a12 v hv, zLaw_ag h a13⟩
  · rw [hh 1 (by omega), hh 2 (by omega), hh 3 (by omega), hh 4 (by omega)]; exact a7
  · rw [hh 5 (by omega), hh 6 (by omega), hh 7 (by omega)]; exact a10
def zRd (W Pn : Nat) (M : zm_I) : Prop := (∀ v, v < W → zx (M 67 v) 8) ∧ ∀ p, p < Pn → zx (M 70 p) W
def zNi (n s : Nat) (M : zm_I) : Prop := M 57 15 = nI n ∧ M 57 16 = nI s
def zit2 (S : zm_I × zm_J → Nat → zm_I × zm_J) (P : zm_I × zm_J) : Nat → zm_I × zm_J
  | 0 => P
  | i + 1 => S (zit2 S P i) i
/-- a hand -/
def fHanS (q n : Nat) (M : zm_I) (i : Nat) : zm_I :=
  if M (q + 5) i = nI n then
    (if zbit (M 21 (zi (M 70 (zi (M (q + 6) i))))) n then M
    else if zbit (M 21 (zi (M (q + 7) i))) n then M
    else if M 67 (zi (M 70 (zi (M (q + 6) i)))) = M 67 (zi (M (q + 7) i)) then zs M 70 (zi (M (q + 6) i)) (nI (zi (M (q + 7) i))) else M)
  else M
/-- an entry of a van in a night -/
def fEntS (q w n s : Nat) (P : zm_I × zm_J) (i : Nat) : zm_I × zm_J :=
  if P.1 (q + 1) i = nI n then
    (if P.1 (q + 2) i = nI w then
      (if (fCau (fForget P.1 i) P.2 w (zi (P.1 (q + 3) i)) (zi (P.1 (q + 4) i)) s n).1 = 0 then
        fShow (fDrive (zs (fForget P.1 i) 59 i (fCau (fForget P.1 i) P.2 w (zi (P.1 (q + 3) i)) (zi (P.1 (q + 4) i)) s n).1) i w (zi (P.1 (q + 3) i)) s) (fCau (fForget P.1 i) P.2 w (zi (P.1 (q + 3) i)) (zi (P.1 (q + 4) i)) s n).2 i (zi (P.1 (q + 3) i)) (zi (P.1 (q + 4) i)) n
      else (zs (fForget P.1 i) 59 i (fCau (fForget P.1 i) P.2 w (zi (P.1 (q + 3) i)) (zi (P.1 (q + 4) i)) s n).1, (fCau (fForget P.1 i) P.2 w (zi (P.1 (q + 3) i)) (zi (P.1 (q + 4) i)) s n).2))
    else P)
  else P
def fTour (q E w n s : Nat) (P : zm_I × zm_J) : zm_I × zm_J := zit2 (fEntS q w n s) (zs (zs P.1 57 18 (nI 0)) 57 19 (nI 0), P.2) E
theorem fForget_ag (M : zm_I) (i : Nat) : zAg M (fForget M i) := by
  unfold fForget
  exact ((((((((zAg.rf M).zs (by omega)).zs (by omega)).zs (by omega)).zs (by omega)).zs (by omega)).zs (by omega)).zs (by omega))
theorem fDrive_ag (M : zm_I) (i w v s : Nat) : zAg M (fDrive M i w v s) := by
  unfold fDrive
  exact ((((zAg.rf M).zs (by omega)).zs (by omega)).zs (by omega)).zs (by omega)
theorem fShow_ag (M : zm_I) (gl : zm_J) (i v p n : Nat) : zAg M (fShow M gl i v p n).1 := by
  unfold fShow
  dsimp only
  iterate 14 refine zAg.zs ?_ (by omega)
  exact zAg.rf M
theorem fEntS_ag (q w n s : Nat) (P : zm_I × zm_J) (i : Nat) : zAg P.1 (fEntS q w n s P i).1 := by
  unfold fEntS
  split
  · split
    · split
      · exact (((fForget_ag P.1 i).zs (by omega)).tr (fDrive_ag _ i w _ s)).tr (fShow_ag _ _ i _ _ n)
      · exact (fForget_ag P.1 i).zs (by omega)
    · exact zAg.rf _
  · exact zAg.rf _
theorem fForget_row (M : zm_I) (i : Nat) {a : Nat} (h : ¬ (59 ≤ a ∧ a ≤ 65)) : fForget M i a = M a := by
  unfold fForget
  rw [zs_nq (by omega), zs_nq (by omega), zs_nq (by omega), zs_nq (by omega), zs_nq (by omega), zs_nq (by omega), zs_nq (by omega)]
theorem fShow_67 (M : zm_I) (gl : zm_J) (i v p n : Nat) : (fShow M gl i v p n).1 67 = M 67 ∧ (fShow M gl i v p n).1 70 = M 70 := by
  unfold fShow
  dsimp only
  constructor <;> rw [zs_nq (by decide), zs_nq (by decide), zs_nq (by decide), zs_nq (by decide), zs_nq (by decide), zs_nq (by decide), zs_nq (by decide), zs_nq (by decide), zs_nq (by decide), zs_nq (by decide), zs_nq (by decide), zs_nq (by decide), zs_nq (by decide), zs_nq (by decide)]
theorem fShow_57 (M : zm_I) (gl : zm_J) (i v p n : Nat) {j : Nat} (h1 : j ≠ 17) (h2 : j ≠ 18) (h3 : j ≠ 19) : (fShow M gl i v p n).1 57 j = M 57 j := by
  unfold fShow
  dsimp only
  rw [zs_nq (by decide), zs_nq (by decide), zs_nj h1, zs_nj h3, zs_nj h2, zs_nq (by decide), zs_nq (by decide), zs_nq (by decide), zs_nq (by decide), zs_nq (by decide), zs_nq (by decide), zs_nq (by decide), zs_nq (by decide), zs_nq (by decide)]
theorem fDrive_57 (M : zm_I) (i w v s : Nat) {j : Nat} (h2 : j ≠ 18) : fDrive M i w v s 57 j = M 57 j := by
  unfold fDrive
  rw [zs_nq (by decide), zs_nj h2, zs_nq (by decide), zs_nq (by decide)]
theorem fDrive_67 (M : zm_I) (i w v s : Nat) (a : Nat) : fDrive M i w v s 67 a = if a = w then nI v else M 67 a := by
  unfold fDrive
  by_cases h : a = w
  · rw [if_pos h, h, zs_eq]
  · rw [if_neg h, zs_nj h, zs_nq (by decide), zs_nq (by decide), zs_nq (by decide)]
theorem fDrive_70 (M : zm_I) (i w v s : Nat) : fDrive M i w v s 70 = M 70 := by
  unfold fDrive
  rw [zs_nq (by decide), zs_nq (by decide), zs_nq (by decide), zs_nq (by decide)]
theorem fEntS_keep {q w n s W Pn E K : Nat} {P : zm_I × zm_J} {i n' s' : Nat} (hR : zRs q W Pn E K P.1) (hi : i < E) (hd : zRd W Pn P.1) (hN : zNi n' s' P.1) : zRd W Pn (fEntS q w n s P i).1 ∧ zNi n' s' (fEntS q w n s P i).1 := by
  have hv := (hR.2.2.2.2.2.2.1 i hi).2.2.1.2
  have f67 : ∀ (c : Int32), zs (fForget P.1 i) 59 i c 67 = P.1 67 := fun c => by rw [zs_nq (by decide), fForget_row _ _ (by omega)]
  have f70 : ∀ (c : Int32), zs (fForget P.1 i) 59 i c 70 = P.1 70 := fun c => by rw [zs_nq (by decide), fForget_row _ _ (by omega)]
  have f57 : ∀ (c : Int32), zs (fForget P.1 i) 59 i c 57 = P.1 57 := fun c => by rw [zs_nq (by decide), fForget_row _ _ (by omega)]
  unfold fEntS
  split
  · split
    · split
      · unfold zRd zNi
        rw [(fShow_67 _ _ _ _ _ _).1, (fShow_67 _ _ _ _ _ _).2, fShow_57 _ _ _ _ _ _ (by decide) (by decide) (by decide), fShow_57 _ _ _ _ _ _ (by decide) (by decide) (by decide), fDrive_57 _ _ _ _ _ (by decide), fDrive_57 _ _ _ _ _ (by decide), fDrive_70, f70, f57]
        refine ⟨⟨fun v h => ?_, hd.2⟩, hN⟩
        rw [fDrive_67, f67]
        split
        · exact zx_of hv (by decide)
        · exact hd.1 v h
      · unfold zRd zNi
        dsimp only
        rw [f67, f70, f57]
        exact ⟨hd, hN⟩
    · exact ⟨hd, hN⟩
  · exact ⟨hd, hN⟩
theorem zit2_keep {q w n s W Pn E K : Nat} {P : zm_I × zm_J} {n' s' : Nat} (hq : q = 27 ∨ q = 76) (hR : zRs q W Pn E K P.1) (hd : zRd W Pn P.1) (hN : zNi n' s' P.1) : ∀ i, i ≤ E → zAg P.1 (zit2 (fEntS q w n s) P i).1 ∧ zRd W Pn (zit2 (fEntS q w n s) P i).1 ∧ zNi n' s' (zit2 (fEntS q w n s) P i).1
  | 0, _ => ⟨zAg.rf _, hd, hN⟩
  | i + 1, hi => by
    obtain ⟨h1, h2, h3⟩ := zit2_keep hq hR hd hN i (by omega)
    have h4 := fEntS_keep (w := w) (n := n) (s := s) (zRs_ag hq h1 hR) (show i < E by omega) h2 h3
    exact ⟨h1.tr (fEntS_ag q w n s _ i), h4.1, h4.2⟩
theorem ct_tourA (g : zm_G) (gi : zm_I) (gl : zm_J) {W Pn E K w n s : Nat} (hR : zRs 27 W Pn E K gi) (hd : zRd W Pn gi) (hN : zNi n s gi) (hn : n < 4) (hs : s < 4) (hw : w < W)  : zC_v g yX0_tour mX0_tour 4 [.ref 57, .int (nI w)] zSH gi gl (zRT 27) (fun gi' gl' gr' => gi' = (fTour 27 E w n s (gi, gl)).1 ∧ gl' = (fTour 27 E w n s (gi, gl)).2 ∧ gr' = zRT 27) := by
  refine zC_v_of [some (.ref 57), some (.int (nI w)), none, none, none] (by decide) rfl rfl (Nat.le_of_ble_eq_true rfl) (fun x => ?_)
  refine zA_aload_0 dX0_tour_0 ?_
  refine zA_iconst (nI 0) dX0_tour_1 ic_0 ?_
  refine zS_putI sh_57 fX0_134 dX0_tour_2 rfl rfl ?_
  refine zA_aload_0 dX0_tour_5 ?_
  refine zA_iconst (nI 0) dX0_tour_6 ic_0 ?_
  refine zS_putI sh_57 fX0_137 dX0_tour_7 rfl rfl ?_
  refine zA_iconst (nI 0) dX0_tour_10 ic_0 ?_
  refine zA_istore_2 dX0_tour_11 rfl ?_
  have hR0 : zRs 27 W Pn E K (zs (zs gi 57 18 (nI 0)) 57 19 (nI 0)) := zRs_ag (by decide) (((zAg.rf gi).zs (by omega)).zs (by omega)) hR
  have hd0 : zRd W Pn (zs (zs gi 57 18 (nI 0)) 57 19 (nI 0)) := by unfold zRd; rw [zs_nq (by decide), zs_nq (by decide), zs_nq (by decide), zs_nq (by decide)]; exact hd
  have hN0 : zNi n s (zs (zs gi 57 18 (nI 0)) 57 19 (nI 0)) := hN
  have hW3 := hR.2.1
  have hP4 := hR.2.2.2.1
  have hE27 := hR.2.2.2.2.2.1
  have key : ∀ (m i : Nat) (l3 l4 : Option Value), i + m = E → zB_v x g mX0_tour 4 zSH (fun gi' gl' gr' => gi' = (fTour 27 E w n s (gi, gl)).1 ∧ gl' = (fTour 27 E w n s (gi, gl)).2 ∧ gr' = zRT 27) 12 [some (.ref 57), some (.int (nI w)), some (.int (nI i)), l3, l4] [] ((zit2 (fEntS 27 w n s) (zs (zs gi 57 18 (nI 0)) 57 19 (nI 0), gl) i).1) ((zit2 (fEntS 27 w n s) (zs (zs gi 57 18 (nI 0)) 57 19 (nI 0), gl) i).2) (zRT 27) := by
    intro m
    induction m with
    | zero =>
      intro i l3 l4 hi
      obtain ⟨kA, kd, kN⟩ := zit2_keep (w := w) (n := n) (s := s) (P := (zs (zs gi 57 18 (nI 0)) 57 19 (nI 0), gl)) (by decide) hR0 hd0 hN0 i (by omega)
      have kR := zRs_ag (q := 27) (by decide) kA hR0
      generalize hX : zit2 (fEntS 27 w n s) (zs (zs gi 57 18 (nI 0)) 57 19 (nI 0), gl) i = X at kA kd kN kR ⊢
      obtain ⟨k1, k2, k3, k4, k5, k6, k7, k8, k9, k10, k11, k12, k13⟩ := id kR
      refine zA_iload_2 dX0_tour_12 ?_
      refine zA_aload_0 dX0_tour_13 ?_
      refine zA_getR sh_57 fX0_55 dX0_tour_14 rfl (rt_57_14 _) ?_
      refine zA_getI (v := (nI E)) sh_27 fX0_140 dX0_tour_17 rfl k5 ?_
      refine zA_icmp_geN 126 dX0_tour_20 (by decide) (by omega) (by omega) (fun h => ?_) (fun h => ?_)
      · have e : i = E := by omega
        exact zB_vret rfl dX0_tour_126 (⟨by rw [← hX, e]; rfl, by rw [← hX, e]; rfl, rfl⟩)
      · exact absurd h (by omega)
    | succ m ih =>
      intro i l3 l4 hi
      obtain ⟨kA, kd, kN⟩ := zit2_keep (w := w) (n := n) (s := s) (P := (zs (zs gi 57 18 (nI 0)) 57 19 (nI 0), gl)) (by decide) hR0 hd0 hN0 i (by omega)
      have kR := zRs_ag (q := 27) (by decide) kA hR0
      generalize hX : zit2 (fEntS 27 w n s) (zs (zs gi 57 18 (nI 0)) 57 19 (nI 0), gl) i = X at kA kd kN kR ⊢
      obtain ⟨k1, k2, k3, k4, k5, k6, k7, k8, k9, k10, k11, k12, k13⟩ := id kR
      refine zA_iload_2 dX0_tour_12 ?_
      refine zA_aload_0 dX0_tour_13 ?_
      refine zA_getR sh_57 fX0_55 dX0_tour_14 rfl (rt_57_14 _) ?_
      refine zA_getI (v := (nI E)) sh_27 fX0_140 dX0_tour_17 rfl k5 ?_
      refine zA_icmp_geN 126 dX0_tour_20 (by decide) (by omega) (by omega) (fun h => ?_) (fun h => ?_)
      · exact absurd h (by omega)
      · obtain ⟨e1, e2, e3, e4⟩ := k7 i h
        have e3l : zi (X.1 30 i) < 8 := e3.2
        have e4l : zi (X.1 31 i) < Pn := e4.2
        refine zA_aload_0 dX0_tour_23 ?_
        refine zA_getR sh_57 fX0_55 dX0_tour_24 rfl (rt_57_14 _) ?_
        refine zA_getR sh_27 fX0_143 dX0_tour_27 rfl (rt_27_0 _) ?_
        refine zA_iload_2 dX0_tour_30 ?_
        refine zA_iald (v := (X.1 28 i)) i sh_28 dX0_tour_31 rfl (by omega) (by decide) rfl ?_
        refine zA_aload_0 dX0_tour_32 ?_
        refine zA_getI (v := (nI n)) sh_57 fX0_69 dX0_tour_33 rfl kN.1 ?_
        refine zA_icmp_ne 120 dX0_tour_36 (by decide) (fun c1 => ?_) (fun c1 => ?_)
        · refine zA_iinc_2 (v := nI (i + 1)) dX0_tour_120 (zn_inc _) rfl ?_
          refine zA_goto 12 dX0_tour_123 (by decide) ?_
          have e9 : zit2 (fEntS 27 w n s) (zs (zs gi 57 18 (nI 0)) 57 19 (nI 0), gl) (i + 1) = X := by show fEntS 27 w n s (zit2 (fEntS 27 w n s) (zs (zs gi 57 18 (nI 0)) 57 19 (nI 0), gl) i) i = _; rw [hX]; unfold fEntS; rw [if_neg c1]
          have h7 := fun (l3 l4 : Option Value) => ih (i + 1) l3 l4 (by omega)
          rw [e9] at h7
          exact h7 _ _
        · refine zA_aload_0 dX0_tour_39 ?_
          refine zA_getR sh_57 fX0_55 dX0_tour_40 rfl (rt_57_14 _) ?_
          refine zA_getR sh_27 fX0_146 dX0_tour_43 rfl (rt_27_1 _) ?_
          refine zA_iload_2 dX0_tour_46 ?_
          refine zA_iald (v := (X.1 29 i)) i sh_29 dX0_tour_47 rfl (by omega) (by decide) rfl ?_
          refine zA_iload_1 dX0_tour_48 ?_
          refine zA_icmp_ne 120 dX0_tour_49 (by decide) (fun c2 => ?_) (fun c2 => ?_)
          · refine zA_iinc_2 (v := nI (i + 1)) dX0_tour_120 (zn_inc _) rfl ?_
            refine zA_goto 12 dX0_tour_123 (by decide) ?_
            have e9 : zit2 (fEntS 27 w n s) (zs (zs gi 57 18 (nI 0)) 57 19 (nI 0), gl) (i + 1) = X := by show fEntS 27 w n s (zit2 (fEntS 27 w n s) (zs (zs gi 57 18 (nI 0)) 57 19 (nI 0), gl) i) i = _; rw [hX]; unfold fEntS; rw [if_pos c1, if_neg c2]
            have h7 := fun (l3 l4 : Option Value) => ih (i + 1) l3 l4 (by omega)
            rw [e9] at h7
            exact h7 _ _
          · refine zA_aload_0 dX0_tour_52 ?_
            refine zA_getR sh_57 fX0_55 dX0_tour_53 rfl (rt_57_14 _) ?_
            refine zA_getR sh_27 fX0_149 dX0_tour_56 rfl (rt_27_2 _) ?_
            refine zA_iload_2 dX0_tour_59 ?_
            refine zA_iald (v := (nI (zi (X.1 30 i)))) i sh_30 dX0_tour_60 rfl (by omega) (by decide) e3.1 ?_
            refine zA_istore_3 dX0_tour_61 rfl ?_
            refine zA_aload_0 dX0_tour_62 ?_
            refine zA_getR sh_57 fX0_55 dX0_tour_63 rfl (rt_57_14 _) ?_
            refine zA_getR sh_27 fX0_152 dX0_tour_66 rfl (rt_27_3 _) ?_
            refine zA_iload_2 dX0_tour_69 ?_
            refine zA_iald (v := (nI (zi (X.1 31 i)))) i sh_31 dX0_tour_70 rfl (by omega) (by decide) e4.1 ?_
            refine zA_istore_4 dX0_tour_71 rfl ?_
            refine zA_aload_0 dX0_tour_73 ?_
            refine zA_iload_2 dX0_tour_74 ?_
            refine zA_cVv (ct_forget g X.1 X.2 _ (i := i) (by omega)) calX0_forget stX0_forget lX0_155 dX0_tour_75 (by decide) (by simp [Value.category]) rfl (Nat.le_refl _) (Nat.le_refl _) sh_57 rfl (fun gi' gl' gr' ⟨q1, q2, q3⟩ => ?_)
            rw [q1, q2, q3]
            clear q1 q2 q3
            have hFa := fForget_ag X.1 i
            have hF57 : fForget X.1 i 57 = X.1 57 := fForget_row _ _ (by omega)
            have hF67 : fForget X.1 i 67 = X.1 67 := fForget_row _ _ (by omega)
            have hFp : fForget X.1 i (23 + zi (X.1 31 i)) = X.1 (23 + zi (X.1 31 i)) := fForget_row _ _ (by omega)
            have hg0 := (k11 _ e4l).1
            refine zA_aload_0 dX0_tour_78 ?_
            refine zA_getR sh_57 fX0_13 dX0_tour_79 rfl (rt_57_4 _) ?_
            refine zA_iconst (nI 0) dX0_tour_82 ic_0 ?_
            refine zA_aald 0 sh_58 dX0_tour_83 rfl (by decide) (by decide) (rt_58_0 _) ?_
            refine zA_iload_2 dX0_tour_84 ?_
            refine zA_aload_0 dX0_tour_85 ?_
            refine zA_iload_1 dX0_tour_86 ?_
            refine zA_iload_3 dX0_tour_87 ?_
            refine zA_iload_4 dX0_tour_88 ?_
            refine zA_cVi (ct_causeAgainst g (fForget X.1 i) X.2 27 (w := w) (v := zi (X.1 30 i)) (p := zi (X.1 31 i)) (s := s) (n := n) (by omega) e3l (by omega) hs (by rw [hF57]; exact kN.2) (by rw [hF57]; exact kN.1) hn (by rw [hF67]; exact kd.1 w hw) (by rw [hFp]; exact hg0) (zLaw_ag hFa k13)) calX0_causeAgainst stX0_causeAgainst lX0_158 dX0_tour_90 (by decide) (by simp [Value.category]) rfl (Nat.le_refl _) (Nat.le_refl _) sh_57 rfl (fun zz gi' gl' gr' ⟨hz, q1, q2, q3⟩ => ?_)
            rw [hz, q1, q2, q3]
            clear hz q1 q2 q3
            refine zS_iast i sh_59 dX0_tour_93 rfl (by omega) (by decide) ?_
            refine zA_aload_0 dX0_tour_94 ?_
            refine zA_getR sh_57 fX0_13 dX0_tour_95 rfl (rt_57_4 _) ?_
            refine zA_iconst (nI 0) dX0_tour_98 ic_0 ?_
            refine zA_aald 0 sh_58 dX0_tour_99 rfl (by decide) (by decide) (rt_58_0 _) ?_
            refine zA_iload_2 dX0_tour_100 ?_
            refine zA_iald (v := ((fCau (fForget X.1 i) X.2 w (zi (X.1 30 i)) (zi (X.1 31 i)) s n).1)) i sh_59 dX0_tour_101 rfl (by omega) (by decide) (zs_eq _ _ _ _) ?_
            refine zA_if_ne 120 dX0_tour_102 (by decide) (fun c3 => ?_) (fun c3 => ?_)
            · refine zA_iinc_2 (v := nI (i + 1)) dX0_tour_120 (zn_inc _) rfl ?_
              refine zA_goto 12 dX0_tour_123 (by decide) ?_
              have e9 : zit2 (fEntS 27 w n s) (zs (zs gi 57 18 (nI 0)) 57 19 (nI 0), gl) (i + 1) = (zs (fForget X.1 i) 59 i (fCau (fForget X.1 i) X.2 w (zi (X.1 30 i)) (zi (X.1 31 i)) s n).1, (fCau (fForget X.1 i) X.2 w (zi (X.1 30 i)) (zi (X.1 31 i)) s n).2) := by show fEntS 27 w n s (zit2 (fEntS 27 w n s) (zs (zs gi 57 18 (nI 0)) 57 19 (nI 0), gl) i) i = _; rw [hX]; unfold fEntS; rw [if_pos c1, if_pos c2, if_neg c3]
              have h7 := fun (l3 l4 : Option Value) => ih (i + 1) l3 l4 (by omega)
              rw [e9] at h7
              exact h7 _ _
            · have hZ57 : (zs (fForget X.1 i) 59 i (fCau (fForget X.1 i) X.2 w (zi (X.1 30 i)) (zi (X.1 31 i)) s n).1) 57 = X.1 57 := by rw [zs_nq (by decide)]; exact hF57
              have hZ67 : (zs (fForget X.1 i) 59 i (fCau (fForget X.1 i) X.2 w (zi (X.1 30 i)) (zi (X.1 31 i)) s n).1) 67 = X.1 67 := by rw [zs_nq (by decide)]; exact hF67
              refine zA_aload_0 dX0_tour_105 ?_
              refine zA_iload_2 dX0_tour_106 ?_
              refine zA_iload_1 dX0_tour_107 ?_
              refine zA_iload_3 dX0_tour_108 ?_
              refine zA_cVv (ct_drive g (zs (fForget X.1 i) 59 i (fCau (fForget X.1 i) X.2 w (zi (X.1 30 i)) (zi (X.1 31 i)) s n).1) (fCau (fForget X.1 i) X.2 w (zi (X.1 30 i)) (zi (X.1 31 i)) s n).2 27 (i := i) (w := w) (v := zi (X.1 30 i)) (s := s) (by omega) (by omega) e3l hs (by rw [hZ57]; exact kN.2) (by rw [hZ67]; exact kd.1 w hw)) calX0_drive stX0_drive lX0_162 dX0_tour_109 (by decide) (by simp [Value.category]) rfl (Nat.le_refl _) (Nat.le_refl _) sh_57 rfl (fun gi' gl' gr' ⟨q1, q2, q3⟩ => ?_)
              rw [q1, q2, q3]
              clear q1 q2 q3
              refine zA_aload_0 dX0_tour_112 ?_
              refine zA_iload_2 dX0_tour_113 ?_
              refine zA_iload_3 dX0_tour_114 ?_
              refine zA_iload_4 dX0_tour_115 ?_
              refine zA_cVv (ct_show g (fDrive (zs (fForget X.1 i) 59 i (fCau (fForget X.1 i) X.2 w (zi (X.1 30 i)) (zi (X.1 31 i)) s n).1) i w (zi (X.1 30 i)) s) (fCau (fForget X.1 i) X.2 w (zi (X.1 30 i)) (zi (X.1 31 i)) s n).2 27 (i := i) (v := zi (X.1 30 i)) (p := zi (X.1 31 i)) (n := n) (by omega) e3l (by omega) (by rw [fDrive_57 _ _ _ _ _ (by decide), hZ57]; exact kN.1) hn (zLaw_ag ((hFa.zs (by omega)).tr (fDrive_ag _ _ _ _ _)) k13)) calX0_show stX0_show lX0_166 dX0_tour_117 (by decide) (by simp [Value.category]) rfl (Nat.le_refl _) (Nat.le_refl _) sh_57 rfl (fun gi' gl' gr' ⟨q1, q2, q3⟩ => ?_)
              rw [q1, q2, q3]
              clear q1 q2 q3
              refine zA_iinc_2 (v := nI (i + 1)) dX0_tour_120 (zn_inc _) rfl ?_
              refine zA_goto 12 dX0_tour_123 (by decide) ?_
              have e9 : zit2 (fEntS 27 w n s) (zs (zs gi 57 18 (nI 0)) 57 19 (nI 0), gl) (i + 1) = fShow (fDrive (zs (fForget X.1 i) 59 i (fCau (fForget X.1 i) X.2 w (zi (X.1 30 i)) (zi (X.1 31 i)) s n).1) i w (zi (X.1 30 i)) s) (fCau (fForget X.1 i) X.2 w (zi (X.1 30 i)) (zi (X.1 31 i)) s n).2 i (zi (X.1 30 i)) (zi (X.1 31 i)) n := by show fEntS 27 w n s (zit2 (fEntS 27 w n s) (zs (zs gi 57 18 (nI 0)) 57 19 (nI 0), gl) i) i = _; rw [hX]; unfold fEntS; rw [if_pos c1, if_pos c2, if_pos c3]
              have h7 := fun (l3 l4 : Option Value) => ih (i + 1) l3 l4 (by omega)
              rw [e9] at h7
              exact h7 _ _
  exact key E 0 none none (by omega)
theorem ct_tourB (g : zm_G) (gi : zm_I) (gl : zm_J) {W Pn E K w n s : Nat} (hR : zRs 76 W Pn E K gi) (hd : zRd W Pn gi) (hN : zNi n s gi) (hn : n < 4) (hs : s < 4) (hw : w < W)  : zC_v g yX0_tour mX0_tour 4 [.ref 57, .int (nI w)] zSH gi gl (zRT 76) (fun gi' gl' gr' => gi' = (fTour 76 E w n s (gi, gl)).1 ∧ gl' = (fTour 76 E w n s (gi, gl)).2 ∧ gr' = zRT 76) := by
  refine zC_v_of [some (.ref 57), some (.int (nI w)), none, none, none] (by decide) rfl rfl (Nat.le_of_ble_eq_true rfl) (fun x => ?_)
  refine zA_aload_0 dX0_tour_0 ?_
  refine zA_iconst (nI 0) dX0_tour_1 ic_0 ?_
  refine zS_putI sh_57 fX0_134 dX0_tour_2 rfl rfl ?_
  refine zA_aload_0 dX0_tour_5 ?_
  refine zA_iconst (nI 0) dX0_tour_6 ic_0 ?_
  refine zS_putI sh_57 fX0_137 dX0_tour_7 rfl rfl ?_
  refine zA_iconst (nI 0) dX0_tour_10 ic_0 ?_
  refine zA_istore_2 dX0_tour_11 rfl ?_
  have hR0 : zRs 76 W Pn E K (zs (zs gi 57 18 (nI 0)) 57 19 (nI 0)) := zRs_ag (by decide) (((zAg.rf gi).zs (by omega)).zs (by omega)) hR
  have hd0 : zRd W Pn (zs (zs gi 57 18 (nI 0)) 57 19 (nI 0)) := by unfold zRd; rw [zs_nq (by decide), zs_nq (by decide), zs_nq (by decide), zs_nq (by decide)]; exact hd
  have hN0 : zNi n s (zs (zs gi 57 18 (nI 0)) 57 19 (nI 0)) := hN
  have hW3 := hR.2.1
  have hP4 := hR.2.2.2.1
  have hE27 := hR.2.2.2.2.2.1
  have key : ∀ (m i : Nat) (l3 l4 : Option Value), i + m = E → zB_v x g mX0_tour 4 zSH (fun gi' gl' gr' => gi' = (fTour 76 E w n s (gi, gl)).1 ∧ gl' = (fTour 76 E w n s (gi, gl)).2 ∧ gr' = zRT 76) 12 [some (.ref 57), some (.int (nI w)), some (.int (nI i)), l3, l4] [] ((zit2 (fEntS 76 w n s) (zs (zs gi 57 18 (nI 0)) 57 19 (nI 0), gl) i).1) ((zit2 (fEntS 76 w n s) (zs (zs gi 57 18 (nI 0)) 57 19 (nI 0), gl) i).2) (zRT 76) := by
    intro m
    induction m with
    | zero =>
      intro i l3 l4 hi
      obtain ⟨kA, kd, kN⟩ := zit2_keep (w := w) (n := n) (s := s) (P := (zs (zs gi 57 18 (nI 0)) 57 19 (nI 0), gl)) (by decide) hR0 hd0 hN0 i (by omega)
      have kR := zRs_ag (q := 76) (by decide) kA hR0
      generalize hX : zit2 (fEntS 76 w n s) (zs (zs gi 57 18 (nI 0)) 57 19 (nI 0), gl) i = X at kA kd kN kR ⊢
      obtain ⟨k1, k2, k3, k4, k5, k6, k7, k8, k9, k10, k11, k12, k13⟩ := id kR
      refine zA_iload_2 dX0_tour_12 ?_
      refine zA_aload_0 dX0_tour_13 ?_
      refine zA_getR sh_57 fX0_55 dX0_tour_14 rfl (rt_57_14 _) ?_
      refine zA_getI (v := (nI E)) sh_76 fX0_140 dX0_tour_17 rfl k5 ?_
      refine zA_icmp_geN 126 dX0_tour_20 (by decide) (by omega) (by omega) (fun h => ?_) (fun h => ?_)
      · have e : i = E := by omega
        exact zB_vret rfl dX0_tour_126 (⟨by rw [← hX, e]; rfl, by rw [← hX, e]; rfl, rfl⟩)
      · exact absurd h (by omega)
    | succ m ih =>
      intro i l3 l4 hi
      obtain ⟨kA, kd, kN⟩ := zit2_keep (w := w) (n := n) (s := s) (P := (zs (zs gi 57 18 (nI 0)) 57 19 (nI 0), gl)) (by decide) hR0 hd0 hN0 i (by omega)
      have kR := zRs_ag (q := 76) (by decide) kA hR0
      generalize hX : zit2 (fEntS 76 w n s) (zs (zs gi 57 18 (nI 0)) 57 19 (nI 0), gl) i = X at kA kd kN kR ⊢
      obtain ⟨k1, k2, k3, k4, k5, k6, k7, k8, k9, k10, k11, k12, k13⟩ := id kR
      refine zA_iload_2 dX0_tour_12 ?_
      refine zA_aload_0 dX0_tour_13 ?_
      refine zA_getR sh_57 fX0_55 dX0_tour_14 rfl (rt_57_14 _) ?_
      refine zA_getI (v := (nI E)) sh_76 fX0_140 dX0_tour_17 rfl k5 ?_
      refine zA_icmp_geN 126 dX0_tour_20 (by decide) (by omega) (by omega) (fun h => ?_) (fun h => ?_)
      · exact absurd h (by omega)
      · obtain ⟨e1, e2, e3, e4⟩ := k7 i h
        have e3l : zi (X.1 79 i) < 8 := e3.2
        have e4l : zi (X.1 80 i) < Pn := e4.2
        refine zA_aload_0 dX0_tour_23 ?_
        refine zA_getR sh_57 fX0_55 dX0_tour_24 rfl (rt_57_14 _) ?_
        refine zA_getR sh_76 fX0_143 dX0_tour_27 rfl (rt_76_0 _) ?_
        refine zA_iload_2 dX0_tour_30 ?_
        refine zA_iald (v := (X.1 77 i)) i sh_77 dX0_tour_31 rfl (by omega) (by decide) rfl ?_
        refine zA_aload_0 dX0_tour_32 ?_
        refine zA_getI (v := (nI n)) sh_57 fX0_69 dX0_tour_33 rfl kN.1 ?_
        refine zA_icmp_ne 120 dX0_tour_36 (by decide) (fun c1 => ?_) (fun c1 => ?_)
        · refine zA_iinc_2 (v := nI (i + 1)) dX0_tour_120 (zn_inc _) rfl ?_
          refine zA_goto 12 dX0_tour_123 (by decide) ?_
          have e9 : zit2 (fEntS 76 w n s) (zs (zs gi 57 18 (nI 0)) 57 19 (nI 0), gl) (i + 1) = X := by show fEntS 76 w n s (zit2 (fEntS 76 w n s) (zs (zs gi 57 18 (nI 0)) 57 19 (nI 0), gl) i) i = _; rw [hX]; unfold fEntS; rw [if_neg c1]
          have h7 := fun (l3 l4 : Option Value) => ih (i + 1) l3 l4 (by omega)
          rw [e9] at h7
          exact h7 _ _
        · refine zA_aload_0 dX0_tour_39 ?_
          refine zA_getR sh_57 fX0_55 dX0_tour_40 rfl (rt_57_14 _) ?_
          refine zA_getR sh_76 fX0_146 dX0_tour_43 rfl (rt_76_1 _) ?_
          refine zA_iload_2 dX0_tour_46 ?_
          refine zA_iald (v := (X.1 78 i)) i sh_78 dX0_tour_47 rfl (by omega) (by decide) rfl ?_
          refine zA_iload_1 dX0_tour_48 ?_
          refine zA_icmp_ne 120 dX0_tour_49 (by decide) (fun c2 => ?_) (fun c2 => ?_)
          · refine zA_iinc_2 (v := nI (i + 1)) dX0_tour_120 (zn_inc _) rfl ?_
            refine zA_goto 12 dX0_tour_123 (by decide) ?_
            have e9 : zit2 (fEntS 76 w n s) (zs (zs gi 57 18 (nI 0)) 57 19 (nI 0), gl) (i + 1) = X := by show fEntS 76 w n s (zit2 (fEntS 76 w n s) (zs (zs gi 57 18 (nI 0)) 57 19 (nI 0), gl) i) i = _; rw [hX]; unfold fEntS; rw [if_pos c1, if_neg c2]
            have h7 := fun (l3 l4 : Option Value) => ih (i + 1) l3 l4 (by omega)
            rw [e9] at h7
            exact h7 _ _
          · refine zA_aload_0 dX0_tour_52 ?_
            refine zA_getR sh_57 fX0_55 dX0_tour_53 rfl (rt_57_14 _) ?_
            refine zA_getR sh_76 fX0_149 dX0_tour_56 rfl (rt_76_2 _) ?_
            refine zA_iload_2 dX0_tour_59 ?_
            refine zA_iald (v := (nI (zi (X.1 79 i)))) i sh_79 dX0_tour_60 rfl (by omega) (by decide) e3.1 ?_
            refine zA_istore_3 dX0_tour_61 rfl ?_
            refine zA_aload_0 dX0_tour_62 ?_
            refine zA_getR sh_57 fX0_55 dX0_tour_63 rfl (rt_57_14 _) ?_
            refine zA_getR sh_76 fX0_152 dX0_tour_66 rfl (rt_76_3 _) ?_
            refine zA_iload_2 dX0_tour_69 ?_
            refine zA_iald (v := (nI (zi (X.1 80 i)))) i sh_80 dX0_tour_70 rfl (by omega) (by decide) e4.1 ?_
            refine zA_istore_4 dX0_tour_71 rfl ?_
            refine zA_aload_0 dX0_tour_73 ?_
            refine zA_iload_2 dX0_tour_74 ?_
            refine zA_cVv (ct_forget g X.1 X.2 _ (i := i) (by omega)) calX0_forget stX0_forget lX0_155 dX0_tour_75 (by decide) (by simp [Value.category]) rfl (Nat.le_refl _) (Nat.le_refl _) sh_57 rfl (fun gi' gl' gr' ⟨q1, q2, q3⟩ => ?_)
            rw [q1, q2, q3]
            clear q1 q2 q3
            have hFa := fForget_ag X.1 i
            have hF57 : fForget X.1 i 57 = X.1 57 := fForget_row _ _ (by omega)
            have hF67 : fForget X.1 i 67 = X.1 67 := fForget_row _ _ (by omega)
            have hFp : fForget X.1 i (23 + zi (X.1 80 i)) = X.1 (23 + zi (X.1 80 i)) := fForget_row _ _ (by omega)
            have hg0 := (k11 _ e4l).1
            refine zA_aload_0 dX0_tour_78 ?_
            refine zA_getR sh_57 fX0_13 dX0_tour_79 rfl (rt_57_4 _) ?_
            refine zA_iconst (nI 0) dX0_tour_82 ic_0 ?_
            refine zA_aald 0 sh_58 dX0_tour_83 rfl (by decide) (by decide) (rt_58_0 _) ?_
            refine zA_iload_2 dX0_tour_84 ?_
            refine zA_aload_0 dX0_tour_85 ?_
            refine zA_iload_1 dX0_tour_86 ?_
            refine zA_iload_3 dX0_tour_87 ?_
            refine zA_iload_4 dX0_tour_88 ?_
            refine zA_cVi (ct_causeAgainst g (fForget X.1 i) X.2 76 (w := w) (v := zi (X.1 79 i)) (p := zi (X.1 80 i)) (s := s) (n := n) (by omega) e3l (by omega) hs (by rw [hF57]; exact kN.2) (by rw [hF57]; exact kN.1) hn (by rw [hF67]; exact kd.1 w hw) (by rw [hFp]; exact hg0) (zLaw_ag hFa k13)) calX0_causeAgainst stX0_causeAgainst lX0_158 dX0_tour_90 (by decide) (by simp [Value.category]) rfl (Nat.le_refl _) (Nat.le_refl _) sh_57 rfl (fun zz gi' gl' gr' ⟨hz, q1, q2, q3⟩ => ?_)
            rw [hz, q1, q2, q3]
            clear hz q1 q2 q3
            refine zS_iast i sh_59 dX0_tour_93 rfl (by omega) (by decide) ?_
            refine zA_aload_0 dX0_tour_94 ?_
            refine zA_getR sh_57 fX0_13 dX0_tour_95 rfl (rt_57_4 _) ?_
            refine zA_iconst (nI 0) dX0_tour_98 ic_0 ?_
            refine zA_aald 0 sh_58 dX0_tour_99 rfl (by decide) (by decide) (rt_58_0 _) ?_
            refine zA_iload_2 dX0_tour_100 ?_
            refine zA_iald (v := ((fCau (fForget X.1 i) X.2 w (zi (X.1 79 i)) (zi (X.1 80 i)) s n).1)) i sh_59 dX0_tour_101 rfl (by omega) (by decide) (zs_eq _ _ _ _) ?_
            refine zA_if_ne 120 dX0_tour_102 (by decide) (fun c3 => ?_) (fun c3 => ?_)
            · refine zA_iinc_2 (v := nI (i + 1)) dX0_tour_120 (zn_inc _) rfl ?_
              refine zA_goto 12 dX0_tour_123 (by decide) ?_
              have e9 : zit2 (fEntS 76 w n s) (zs (zs gi 57 18 (nI 0)) 57 19 (nI 0), gl) (i + 1) = (zs (fForget X.1 i) 59 i (fCau (fForget X.1 i) X.2 w (zi (X.1 79 i)) (zi (X.1 80 i)) s n).1, (fCau (fForget X.1 i) X.2 w (zi (X.1 79 i)) (zi (X.1 80 i)) s n).2) := by show fEntS 76 w n s (zit2 (fEntS 76 w n s) (zs (zs gi 57 18 (nI 0)) 57 19 (nI 0), gl) i) i = _; rw [hX]; unfold fEntS; rw [if_pos c1, if_pos c2, if_neg c3]
              have h7 := fun (l3 l4 : Option Value) => ih (i + 1) l3 l4 (by omega)
              rw [e9] at h7
              exact h7 _ _
            · have hZ57 : (zs (fForget X.1 i) 59 i (fCau (fForget X.1 i) X.2 w (zi (X.1 79 i)) (zi (X.1 80 i)) s n).1) 57 = X.1 57 := by rw [zs_nq (by decide)]; exact hF57
              have hZ67 : (zs (fForget X.1 i) 59 i (fCau (fForget X.1 i) X.2 w (zi (X.1 79 i)) (zi (X.1 80 i)) s n).1) 67 = X.1 67 := by rw [zs_nq (by decide)]; exact hF67
              refine zA_aload_0 dX0_tour_105 ?_
              refine zA_iload_2 dX0_tour_106 ?_
              refine zA_iload_1 dX0_tour_107 ?_
              refine zA_iload_3 dX0_tour_108 ?_
              refine zA_cVv (ct_drive g (zs (fForget X.1 i) 59 i (fCau (fForget X.1 i) X.2 w (zi (X.1 79 i)) (zi (X.1 80 i)) s n).1) (fCau (fForget X.1 i) X.2 w (zi (X.1 79 i)) (zi (X.1 80 i)) s n).2 76 (i := i) (w := w) (v := zi (X.1 79 i)) (s := s) (by omega) (by omega) e3l hs (by rw [hZ57]; exact kN.2) (by rw [hZ67]; exact kd.1 w hw)) calX0_drive stX0_drive lX0_162 dX0_tour_109 (by decide) (by simp [Value.category]) rfl (Nat.le_refl _) (Nat.le_refl _) sh_57 rfl (fun gi' gl' gr' ⟨q1, q2, q3⟩ => ?_)
              rw [q1, q2, q3]
              clear q1 q2 q3
              refine zA_aload_0 dX0_tour_112 ?_
              refine zA_iload_2 dX0_tour_113 ?_
              refine zA_iload_3 dX0_tour_114 ?_
              refine zA_iload_4 dX0_tour_115 ?_
              refine zA_cVv (ct_show g (fDrive (zs (fForget X.1 i) 59 i (fCau (fForget X.1 i) X.2 w (zi (X.1 79 i)) (zi (X.1 80 i)) s n).1) i w (zi (X.1 79 i)) s) (fCau (fForget X.1 i) X.2 w (zi (X.1 79 i)) (zi (X.1 80 i)) s n).2 76 (i := i) (v := zi (X.1 79 i)) (p := zi (X.1 80 i)) (n := n) (by omega) e3l (by omega) (by rw [fDrive_57 _ _ _ _ _ (by decide), hZ57]; exact kN.1) hn (zLaw_ag ((hFa.zs (by omega)).tr (fDrive_ag _ _ _ _ _)) k13)) calX0_show stX0_show lX0_166 dX0_tour_117 (by decide) (by simp [Value.category]) rfl (Nat.le_refl _) (Nat.le_refl _) sh_57 rfl (fun gi' gl' gr' ⟨q1, q2, q3⟩ => ?_)
              rw [q1, q2, q3]
              clear q1 q2 q3
              refine zA_iinc_2 (v := nI (i + 1)) dX0_tour_120 (zn_inc _) rfl ?_
              refine zA_goto 12 dX0_tour_123 (by decide) ?_
              have e9 : zit2 (fEntS 76 w n s) (zs (zs gi 57 18 (nI 0)) 57 19 (nI 0), gl) (i + 1) = fShow (fDrive (zs (fForget X.1 i) 59 i (fCau (fForget X.1 i) X.2 w (zi (X.1 79 i)) (zi (X.1 80 i)) s n).1) i w (zi (X.1 79 i)) s) (fCau (fForget X.1 i) X.2 w (zi (X.1 79 i)) (zi (X.1 80 i)) s n).2 i (zi (X.1 79 i)) (zi (X.1 80 i)) n := by show fEntS 76 w n s (zit2 (fEntS 76 w n s) (zs (zs gi 57 18 (nI 0)) 57 19 (nI 0), gl) i) i = _; rw [hX]; unfold fEntS; rw [if_pos c1, if_pos c2, if_pos c3]
              have h7 := fun (l3 l4 : Option Value) => ih (i + 1) l3 l4 (by omega)
              rw [e9] at h7
              exact h7 _ _
  exact key E 0 none none (by omega)
