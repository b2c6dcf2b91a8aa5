theorem zA_gr {x : zm_X} {g : zm_G} {y : zm_Y} {d mc ms : Nat} {Q : State → Prop} {ce sl pc : Nat} {L : List (Option Value)} {st : List Value} {sh : List zm_K} {gi : zm_I} {gl : zm_J} {gr gr2 : zm_R} (e : gr = gr2) (k : zA x g y d mc ms Q ce sl pc L st (sh, gi, gl, gr2)) : zA x g y d mc ms Q ce sl pc L st (sh, gi, gl, gr) := e ▸ k
theorem ct_goThroughA (g : zm_G) (gi : zm_I) (gl : zm_J) (r : Nat) {W Pn E K : Nat} (hR : zRs 27 W Pn E K gi) (sh : Int32)  : zC_v g yX0_goThrough mX0_goThrough 5 [.ref 57, .ref 27, .int sh] zSH gi gl (zRT r) (fun gi' gl' gr' => gi' = (fGo 27 sh W Pn E K (gi, gl)).1 ∧ gl' = (fGo 27 sh W Pn E K (gi, gl)).2 ∧ gr' = zRT 27) := by
  refine zC_v_of [some (.ref 57), some (.ref 27), some (.int sh), none, none] (by decide) rfl rfl (Nat.le_of_ble_eq_true rfl) (fun x => ?_)
  refine zA_aload_0 dX0_goThrough_0 ?_
  refine zA_aload_1 dX0_goThrough_1 ?_
  refine zA_putR sh_57 fX0_55 dX0_goThrough_2 rfl rfl ?_
  refine zA_gr (zRT_put r 27) ?_
  obtain ⟨k1, k2, k3, k4, k5, k6, k7, k8, k9, k10, k11, k12, k13⟩ := id hR
  refine zA_aload_0 dX0_goThrough_5 ?_
  refine zA_cVv (ct_begin g gi gl 27 k1 k2 k3 k4) calX0_begin stX0_begin lX0_66 dX0_goThrough_6 (by decide) (by simp [Value.category]) rfl (Nat.le_refl _) (Nat.le_refl _) sh_57 rfl (fun gi' gl' gr' ⟨q1, q2, q3⟩ => ?_)
  rw [q1, q2, q3]
  clear q1 q2 q3
  refine zA_iconst (nI 0) dX0_goThrough_9 ic_0 ?_
  refine zA_istore_3 dX0_goThrough_10 rfl ?_
  have hB := fBegin_ag gi W Pn
  have hRB : zRs 27 W Pn E K (fBegin gi W Pn) := zRs_ag (by decide) hB hR
  have hdB := fBegin_rd hR
  have key : ∀ (m n : Nat) (l4 : Option Value), n + m = 4 → zB_v x g mX0_goThrough 5 zSH (fun gi' gl' gr' => gi' = (fGo 27 sh W Pn E K (gi, gl)).1 ∧ gl' = (fGo 27 sh W Pn E K (gi, gl)).2 ∧ gr' = zRT 27) 11 [some (.ref 57), some (.ref 27), some (.int sh), some (.int (nI n)), l4] [] ((zit2 (fNiS 27 sh W Pn E K) (fBegin gi W Pn, gl) n).1) ((zit2 (fNiS 27 sh W Pn E K) (fBegin gi W Pn, gl) n).2) (zRT 27) := by
    intro m
    induction m with
    | zero =>
      intro n l4 hi
      obtain ⟨kA, kd⟩ := zit2_ni (sh := sh) (P := (fBegin gi W Pn, gl)) (by decide) hRB hdB n
      have kR := zRs_ag (q := 27) (by decide) kA hRB
      generalize hX : zit2 (fNiS 27 sh W Pn E K) (fBegin gi W Pn, gl) n = X at kA kd kR ⊢
      obtain ⟨k1, k2, k3, k4, k5, k6, k7, k8, k9, k10, k11, k12, k13⟩ := id kR
      refine zA_iload_3 dX0_goThrough_11 ?_
      refine zA_iconst (nI 4) dX0_goThrough_12 ic_4 ?_
      refine zA_icmp_geN 91 dX0_goThrough_13 (by decide) (by omega) (by omega) (fun h => ?_) (fun h => ?_)
      · have e : n = 4 := by omega
        rw [e] at hX
        refine zA_aload_0 dX0_goThrough_91 ?_
        refine zA_cVv (ct_payFuel g X.1 X.2 27 k1 k2) calX0_payFuel stX0_payFuel lX0_98 dX0_goThrough_92 (by decide) (by simp [Value.category]) rfl (Nat.le_refl _) (Nat.le_refl _) sh_57 rfl (fun gi' gl' gr' ⟨q1, q2, q3⟩ => ?_)
        rw [q1, q2, q3]
        clear q1 q2 q3
        refine zA_aload_0 dX0_goThrough_95 ?_
        refine zA_cVv (ct_payFines g (zit fFuelS X.1 W) X.2 27 (by rw [zit_nq (fFuelS_nq (by decide))]; exact k3) k4) calX0_payFines stX0_payFines lX0_101 dX0_goThrough_96 (by decide) (by simp [Value.category]) rfl (Nat.le_refl _) (Nat.le_refl _) sh_57 rfl (fun gi' gl' gr' ⟨q1, q2, q3⟩ => ?_)
        rw [q1, q2, q3]
        clear q1 q2 q3
        exact zB_vret rfl dX0_goThrough_99 (⟨by rw [← hX]; rfl, by rw [← hX]; rfl, rfl⟩)
      · exact absurd h (by omega)
    | succ m ih =>
      intro n l4 hi
      obtain ⟨kA, kd⟩ := zit2_ni (sh := sh) (P := (fBegin gi W Pn, gl)) (by decide) hRB hdB n
      have kR := zRs_ag (q := 27) (by decide) kA hRB
      generalize hX : zit2 (fNiS 27 sh W Pn E K) (fBegin gi W Pn, gl) n = X at kA kd kR ⊢
      obtain ⟨k1, k2, k3, k4, k5, k6, k7, k8, k9, k10, k11, k12, k13⟩ := id kR
      refine zA_iload_3 dX0_goThrough_11 ?_
      refine zA_iconst (nI 4) dX0_goThrough_12 ic_4 ?_
      refine zA_icmp_geN 91 dX0_goThrough_13 (by decide) (by omega) (by omega) (fun h => ?_) (fun h => ?_)
      · exact absurd h (by omega)
      · refine zA_aload_0 dX0_goThrough_16 ?_
        refine zA_iload_3 dX0_goThrough_17 ?_
        refine zS_putI sh_57 fX0_69 dX0_goThrough_18 rfl rfl ?_
        refine zA_aload_0 dX0_goThrough_21 ?_
        refine zA_iload_2 dX0_goThrough_22 ?_
        refine zA_iconst (nI 2) dX0_goThrough_23 ic_2 ?_
        refine zA_iload_3 dX0_goThrough_24 ?_
        refine zA_imulN dX0_goThrough_25 ?_
        refine zA_ishr dX0_goThrough_26 ?_
        refine zA_iconst (nI 3) dX0_goThrough_27 ic_3 ?_
        refine zA_iand dX0_goThrough_28 ?_
        refine zA_topi (zsh_eq sh n) ?_
        refine zS_putI sh_57 fX0_73 dX0_goThrough_29 rfl rfl ?_
        refine zA_aload_0 dX0_goThrough_32 ?_
        refine zA_iconst (nI 0) dX0_goThrough_33 ic_0 ?_
        refine zS_putI sh_57 fX0_76 dX0_goThrough_34 rfl rfl ?_
        refine zA_aload_0 dX0_goThrough_37 ?_
        have a0 := fNi0_ag sh n X.1
        have kR0 := zRs_ag (q := 27) (by decide) a0 kR
        have kd0 := fNi0_rd (sh := sh) (n := n) kd
        have kN0 : zNi n (zsh sh n) (fNi0 sh n X.1) := ⟨rfl, rfl⟩
        have kN1 : zNi n (zsh sh n) (zit (fHanS 27 n) (fNi0 sh n X.1) K) := by unfold zNi; rw [zit_nq (fHanS_nq (by decide))]; exact kN0
        obtain ⟨a1, kd1⟩ := zit_han (n := n) (by decide) kR0 kd0 K (Nat.le_refl _)
        have kR1 := zRs_ag (q := 27) (by decide) a1 kR0
        refine zA_cVv (ct_handOnA g (fNi0 sh n X.1) X.2 kR0 kd0 kN0 (by omega)) calX0_handOn stX0_handOn lX0_79 dX0_goThrough_38 (by decide) (by simp [Value.category]) rfl (Nat.le_refl _) (Nat.le_refl _) sh_57 rfl (fun gi' gl' gr' ⟨q1, q2, q3⟩ => ?_)
        rw [q1, q2, q3]
        clear q1 q2 q3
        refine zA_iconst (nI 0) dX0_goThrough_41 ic_0 ?_
        refine zA_istore_4 dX0_goThrough_42 rfl ?_
        have inn : ∀ (k w : Nat), w + k = W → zB_v x g mX0_goThrough 5 zSH (fun gi' gl' gr' => gi' = (fGo 27 sh W Pn E K (gi, gl)).1 ∧ gl' = (fGo 27 sh W Pn E K (gi, gl)).2 ∧ gr' = zRT 27) 44 [some (.ref 57), some (.ref 27), some (.int sh), some (.int (nI n)), some (.int (nI w))] [] ((zit2 (fVanS 27 E n (zsh sh n)) (zit (fHanS 27 n) (fNi0 sh n X.1) K, X.2) w).1) ((zit2 (fVanS 27 E n (zsh sh n)) (zit (fHanS 27 n) (fNi0 sh n X.1) K, X.2) w).2) (zRT 27) := by
          intro k
          induction k with
          | zero =>
            intro w hw
            obtain ⟨vA, vd, vN⟩ := zit2_van (n := n) (s := zsh sh n) (P := (zit (fHanS 27 n) (fNi0 sh n X.1) K, X.2)) (by decide) kR1 kd1 kN1 w
            have vR := zRs_ag (q := 27) (by decide) vA kR1
            generalize hY : zit2 (fVanS 27 E n (zsh sh n)) (zit (fHanS 27 n) (fNi0 sh n X.1) K, X.2) w = Y at vA vd vN vR ⊢
            obtain ⟨v1, v2, v3, v4, v5, v6, v7, v8, v9, v10, v11, v12, v13⟩ := id vR
            refine zA_iload_4 dX0_goThrough_44 ?_
            refine zA_aload_0 dX0_goThrough_46 ?_
            refine zA_getR sh_57 fX0_51 dX0_goThrough_47 rfl (rt_57_1 _) ?_
            refine zA_getI (v := (nI W)) sh_19 fX0_82 dX0_goThrough_50 rfl v1 ?_
            refine zA_icmp_geN 81 dX0_goThrough_53 (by decide) (by omega) (by omega) (fun h9 => ?_) (fun h9 => ?_)
            · have e : w = W := by omega
              rw [e] at hY
              refine zA_aload_0 dX0_goThrough_81 ?_
              refine zA_cVv (ct_endNight g Y.1 Y.2 27 (n := n) v1 v2 v3 v4 vN.1 (by omega) vd.2) calX0_endNight stX0_endNight lX0_95 dX0_goThrough_82 (by decide) (by simp [Value.category]) rfl (Nat.le_refl _) (Nat.le_refl _) sh_57 rfl (fun gi' gl' gr' ⟨q1, q2, q3⟩ => ?_)
              rw [q1, q2, q3]
              clear q1 q2 q3
              refine zA_iinc_3 (v := nI (n + 1)) dX0_goThrough_85 (zn_inc _) rfl ?_
              refine zA_goto 11 dX0_goThrough_88 (by decide) ?_
              have e9 : zit2 (fNiS 27 sh W Pn E K) (fBegin gi W Pn, gl) (n + 1) = (zit (fEnd2S n) (zit (fEnd1S n) Y.1 W) Pn, Y.2) := by show fNiS 27 sh W Pn E K (zit2 (fNiS 27 sh W Pn E K) (fBegin gi W Pn, gl) n) n = _; rw [hX]; unfold fNiS; rw [hY]
              have h7 := fun (l4 : Option Value) => ih (n + 1) l4 (by omega)
              rw [e9] at h7
              exact h7 _
            · exact absurd h9 (by omega)
          | succ k ih2 =>
            intro w hw
            obtain ⟨vA, vd, vN⟩ := zit2_van (n := n) (s := zsh sh n) (P := (zit (fHanS 27 n) (fNi0 sh n X.1) K, X.2)) (by decide) kR1 kd1 kN1 w
            have vR := zRs_ag (q := 27) (by decide) vA kR1
            generalize hY : zit2 (fVanS 27 E n (zsh sh n)) (zit (fHanS 27 n) (fNi0 sh n X.1) K, X.2) w = Y at vA vd vN vR ⊢
            obtain ⟨v1, v2, v3, v4, v5, v6, v7, v8, v9, v10, v11, v12, v13⟩ := id vR
            refine zA_iload_4 dX0_goThrough_44 ?_
            refine zA_aload_0 dX0_goThrough_46 ?_
            refine zA_getR sh_57 fX0_51 dX0_goThrough_47 rfl (rt_57_1 _) ?_
            refine zA_getI (v := (nI W)) sh_19 fX0_82 dX0_goThrough_50 rfl v1 ?_
            refine zA_icmp_geN 81 dX0_goThrough_53 (by decide) (by omega) (by omega) (fun h9 => ?_) (fun h9 => ?_)
            · exact absurd h9 (by omega)
            · refine zA_aload_0 dX0_goThrough_56 ?_
              refine zA_getR sh_57 fX0_55 dX0_goThrough_57 rfl (rt_57_14 _) ?_
              refine zA_iload_3 dX0_goThrough_60 ?_
              refine zA_iload_4 dX0_goThrough_61 ?_
              refine zA_cVi (ct_hasPlanA g Y.1 Y.2 27 (n := n) (v := w) (by omega) (by omega)) calX7_hasPlan stX7_hasPlan lX0_87 dX0_goThrough_63 (by decide) (by simp [Value.category]) rfl (Nat.le_refl _) (Nat.le_refl _) sh_27 rfl (fun zz gi' gl' gr' ⟨hz, q1, q2, q3⟩ => ?_)
              rw [hz, q1, q2, q3]
              clear hz q1 q2 q3
              refine zA_if_eqB 75 dX0_goThrough_66 (by decide) (fun b1 => ?_) (fun b1 => ?_)
              · refine zA_iinc_4 (v := nI (w + 1)) dX0_goThrough_75 (zn_inc _) rfl ?_
                refine zA_goto 44 dX0_goThrough_78 (by decide) ?_
                have e9 : zit2 (fVanS 27 E n (zsh sh n)) (zit (fHanS 27 n) (fNi0 sh n X.1) K, X.2) (w + 1) = Y := by show fVanS 27 E n (zsh sh n) (zit2 (fVanS 27 E n (zsh sh n)) (zit (fHanS 27 n) (fNi0 sh n X.1) K, X.2) w) w = _; rw [hY]; exact if_pos (Decidable.not_not.mp b1)
                have h7 := ih2 (w + 1) (by omega)
                rw [e9] at h7
                exact h7
              · refine zA_aload_0 dX0_goThrough_69 ?_
                refine zA_iload_4 dX0_goThrough_70 ?_
                refine zA_cVv (ct_tourA g Y.1 Y.2 (w := w) vR vd vN (by omega) (zsh_lt sh n) (by omega)) calX0_tour stX0_tour lX0_91 dX0_goThrough_72 (by decide) (by simp [Value.category]) rfl (Nat.le_refl _) (Nat.le_refl _) sh_57 rfl (fun gi' gl' gr' ⟨q1, q2, q3⟩ => ?_)
                rw [q1, q2, q3]
                clear q1 q2 q3
                refine zA_iinc_4 (v := nI (w + 1)) dX0_goThrough_75 (zn_inc _) rfl ?_
                refine zA_goto 44 dX0_goThrough_78 (by decide) ?_
                have e9 : zit2 (fVanS 27 E n (zsh sh n)) (zit (fHanS 27 n) (fNi0 sh n X.1) K, X.2) (w + 1) = fTour 27 E w n (zsh sh n) (Y.1, Y.2) := by show fVanS 27 E n (zsh sh n) (zit2 (fVanS 27 E n (zsh sh n)) (zit (fHanS 27 n) (fNi0 sh n X.1) K, X.2) w) w = _; rw [hY]; exact if_neg b1
                have h7 := ih2 (w + 1) (by omega)
                rw [e9] at h7
                exact h7
        exact inn W 0 (by omega)
  exact key 4 0 none (by omega)
theorem ct_goThroughB (g : zm_G) (gi : zm_I) (gl : zm_J) (r : Nat) {W Pn E K : Nat} (hR : zRs 76 W Pn E K gi) (sh : Int32)  : zC_v g yX0_goThrough mX0_goThrough 5 [.ref 57, .ref 76, .int sh] zSH gi gl (zRT r) (fun gi' gl' gr' => gi' = (fGo 76 sh W Pn E K (gi, gl)).1 ∧ gl' = (fGo 76 sh W Pn E K (gi, gl)).2 ∧ gr' = zRT 76) := by
  refine zC_v_of [some (.ref 57), some (.ref 76), some (.int sh), none, none] (by decide) rfl rfl (Nat.le_of_ble_eq_true rfl) (fun x => ?_)
  refine zA_aload_0 dX0_goThrough_0 ?_
  refine zA_aload_1 dX0_goThrough_1 ?_
  refine zA_putR sh_57 fX0_55 dX0_goThrough_2 rfl rfl ?_
  refine zA_gr (zRT_put r 76) ?_
  obtain ⟨k1, k2, k3, k4, k5, k6, k7, k8, k9, k10, k11, k12, k13⟩ := id hR
  refine zA_aload_0 dX0_goThrough_5 ?_
  refine zA_cVv (ct_begin g gi gl 76 k1 k2 k3 k4) calX0_begin stX0_begin lX0_66 dX0_goThrough_6 (by decide) (by simp [Value.category]) rfl (Nat.le_refl _) (Nat.le_refl _) sh_57 rfl (fun gi' gl' gr' ⟨q1, q2, q3⟩ => ?_)
  rw [q1, q2, q3]
  clear q1 q2 q3
  refine zA_iconst (nI 0) dX0_goThrough_9 ic_0 ?_
  refine zA_istore_3 dX0_goThrough_10 rfl ?_
  have hB := fBegin_ag gi W Pn
  have hRB : zRs 76 W Pn E K (fBegin gi W Pn) := zRs_ag (by decide) hB hR
  have hdB := fBegin_rd hR
  have key : ∀ (m n : Nat) (l4 : Option Value), n + m = 4 → zB_v x g mX0_goThrough 5 zSH (fun gi' gl' gr' => gi' = (fGo 76 sh W Pn E K (gi, gl)).1 ∧ gl' = (fGo 76 sh W Pn E K (gi, gl)).2 ∧ gr' = zRT 76) 11 [some (.ref 57), some (.ref 76), some (.int sh), some (.int (nI n)), l4] [] ((zit2 (fNiS 76 sh W Pn E K) (fBegin gi W Pn, gl) n).1) ((zit2 (fNiS 76 sh W Pn E K) (fBegin gi W Pn, gl) n).2) (zRT 76) := by
    intro m
    induction m with
    | zero =>
      intro n l4 hi
      obtain ⟨kA, kd⟩ := zit2_ni (sh := sh) (P := (fBegin gi W Pn, gl)) (by decide) hRB hdB n
      have kR := zRs_ag (q := 76) (by decide) kA hRB
      generalize hX : zit2 (fNiS 76 sh W Pn E K) (fBegin gi W Pn, gl) n = X at kA kd kR ⊢
      obtain ⟨k1, k2, k3, k4, k5, k6, k7, k8, k9, k10, k11, k12, k13⟩ := id kR
      refine zA_iload_3 dX0_goThrough_11 ?_
      refine zA_iconst (nI 4) dX0_goThrough_12 ic_4 ?_
      refine zA_icmp_geN 91 dX0_goThrough_13 (by decide) (by omega) (by omega) (fun h => ?_) (fun h => ?_)
      · have e : n = 4 := by omega
        rw [e] at hX
        refine zA_aload_0 dX0_goThrough_91 ?_
        refine zA_cVv (ct_payFuel g X.1 X.2 76 k1 k2) calX0_payFuel stX0_payFuel lX0_98 dX0_goThrough_92 (by decide) (by simp [Value.category]) rfl (Nat.le_refl _) (Nat.le_refl _) sh_57 rfl (fun gi' gl' gr' ⟨q1, q2, q3⟩ => ?_)
        rw [q1, q2, q3]
        clear q1 q2 q3
        refine zA_aload_0 dX0_goThrough_95 ?_
        refine zA_cVv (ct_payFines g (zit fFuelS X.1 W) X.2 76 (by rw [zit_nq (fFuelS_nq (by decide))]; exact k3) k4) calX0_payFines stX0_payFines lX0_101 dX0_goThrough_96 (by decide) (by simp [Value.category]) rfl (Nat.le_refl _) (Nat.le_refl _) sh_57 rfl (fun gi' gl' gr' ⟨q1, q2, q3⟩ => ?_)
        rw [q1, q2, q3]
        clear q1 q2 q3
        exact zB_vret rfl dX0_goThrough_99 (⟨by rw [← hX]; rfl, by rw [← hX]; rfl, rfl⟩)
      · exact absurd h (by omega)
    | succ m ih =>
      intro n l4 hi
      obtain ⟨kA, kd⟩ := zit2_ni (sh := sh) (P := (fBegin gi W Pn, gl)) (by decide) hRB hdB n
      have kR := zRs_ag (q := 76) (by decide) kA hRB
      generalize hX : zit2 (fNiS 76 sh W Pn E K) (fBegin gi W Pn, gl) n = X at kA kd kR ⊢
      obtain ⟨k1, k2, k3, k4, k5, k6, k7, k8, k9, k10, k11, k12, k13⟩ := id kR
      refine zA_iload_3 dX0_goThrough_11 ?_
      refine zA_iconst (nI 4) dX0_goThrough_12 ic_4 ?_
      refine zA_icmp_geN 91 dX0_goThrough_13 (by decide) (by omega) (by omega) (fun h => ?_) (fun h => ?_)
      · exact absurd h (by omega)
      · refine zA_aload_0 dX0_goThrough_16 ?_
        refine zA_iload_3 dX0_goThrough_17 ?_
        refine zS_putI sh_57 fX0_69 dX0_goThrough_18 rfl rfl ?_
        refine zA_aload_0 dX0_goThrough_21 ?_
        refine zA_iload_2 dX0_goThrough_22 ?_
        refine zA_iconst (nI 2) dX0_goThrough_23 ic_2 ?_
        refine zA_iload_3 dX0_goThrough_24 ?_
        refine zA_imulN dX0_goThrough_25 ?_
        refine zA_ishr dX0_goThrough_26 ?_
        refine zA_iconst (nI 3) dX0_goThrough_27 ic_3 ?_
        refine zA_iand dX0_goThrough_28 ?_
        refine zA_topi (zsh_eq sh n) ?_
        refine zS_putI sh_57 fX0_73 dX0_goThrough_29 rfl rfl ?_
        refine zA_aload_0 dX0_goThrough_32 ?_
        refine zA_iconst (nI 0) dX0_goThrough_33 ic_0 ?_
        refine zS_putI sh_57 fX0_76 dX0_goThrough_34 rfl rfl ?_
        refine zA_aload_0 dX0_goThrough_37 ?_
        have a0 := fNi0_ag sh n X.1
        have kR0 := zRs_ag (q := 76) (by decide) a0 kR
        have kd0 := fNi0_rd (sh := sh) (n := n) kd
        have kN0 : zNi n (zsh sh n) (fNi0 sh n X.1) := ⟨rfl, rfl⟩
        have kN1 : zNi n (zsh sh n) (zit (fHanS 76 n) (fNi0 sh n X.1) K) := by unfold zNi; rw [zit_nq (fHanS_nq (by decide))]; exact kN0
        obtain ⟨a1, kd1⟩ := zit_han (n := n) (by decide) kR0 kd0 K (Nat.le_refl _)
        have kR1 := zRs_ag (q := 76) (by decide) a1 kR0
        refine zA_cVv (ct_handOnB g (fNi0 sh n X.1) X.2 kR0 kd0 kN0 (by omega)) calX0_handOn stX0_handOn lX0_79 dX0_goThrough_38 (by decide) (by simp [Value.category]) rfl (Nat.le_refl _) (Nat.le_refl _) sh_57 rfl (fun gi' gl' gr' ⟨q1, q2, q3⟩ => ?_)
        rw [q1, q2, q3]
        clear q1 q2 q3
        refine zA_iconst (nI 0) dX0_goThrough_41 ic_0 ?_
        refine zA_istore_4 dX0_goThrough_42 rfl ?_
        have inn : ∀ (k w : Nat), w + k = W → zB_v x g mX0_goThrough 5 zSH (fun gi' gl' gr' => gi' = (fGo 76 sh W Pn E K (gi, gl)).1 ∧ gl' = (fGo 76 sh W Pn E K (gi, gl)).2 ∧ gr' = zRT 76) 44 [some (.ref 57), some (.ref 76), some (.int sh), some (.int (nI n)), some (.int (nI w))] [] ((zit2 (fVanS 76 E n (zsh sh n)) (zit (fHanS 76 n) (fNi0 sh n X.1) K, X.2) w).1) ((zit2 (fVanS 76 E n (zsh sh n)) (zit (fHanS 76 n) (fNi0 sh n X.1) K, X.2) w).2) (zRT 76) := by
          intro k
          induction k with
          | zero =>
            intro w hw
            obtain ⟨vA, vd, vN⟩ := zit2_van (n := n) (s := zsh sh n) (P := (zit (fHanS 76 n) (fNi0 sh n X.1) K, X.2)) (by decide) kR1 kd1 kN1 w
            have vR := zRs_ag (q := 76) (by decide) vA kR1
            generalize hY : zit2 (fVanS 76 E n (zsh sh n)) (zit (fHanS 76 n) (fNi0 sh n X.1) K, X.2) w = Y at vA vd vN vR ⊢
            obtain ⟨v1, v2, v3, v4, v5, v6, v7, v8, v9, v10, v11, v12, v13⟩ := id vR
            refine zA_iload_4 dX0_goThrough_44 ?_
            refine zA_aload_0 dX0_goThrough_46 ?_
            refine zA_getR sh_57 fX0_51 dX0_goThrough_47 rfl (rt_57_1 _) ?_
            refine zA_getI (v := (nI W)) sh_19 fX0_82 dX0_goThrough_50 rfl v1 ?_
            refine zA_icmp_geN 81 dX0_goThrough_53 (by decide) (by omega) (by omega) (fun h9 => ?_) (fun h9 => ?_)
            · have e : w = W := by omega
              rw [e] at hY
              refine zA_aload_0 dX0_goThrough_81 ?_
              refine zA_cVv (ct_endNight g Y.1 Y.2 76 (n := n) v1 v2 v3 v4 vN.1 (by omega) vd.2) calX0_endNight stX0_endNight lX0_95 dX0_goThrough_82 (by decide) (by simp [Value.category]) rfl (Nat.le_refl _) (Nat.le_refl _) sh_57 rfl (fun gi' gl' gr' ⟨q1, q2, q3⟩ => ?_)
              rw [q1, q2, q3]
              clear q1 q2 q3
              refine zA_iinc_3 (v := nI (n + 1)) dX0_goThrough_85 (zn_inc _) rfl ?_
              refine zA_goto 11 dX0_goThrough_88 (by decide) ?_
              have e9 : zit2 (fNiS 76 sh W Pn E K) (fBegin gi W Pn, gl) (n + 1) = (zit (fEnd2S n) (zit (fEnd1S n) Y.1 W) Pn, Y.2) := by show fNiS 76 sh W Pn E K (zit2 (fNiS 76 sh W Pn E K) (fBegin gi W Pn, gl) n) n = _; rw [hX]; unfold fNiS; rw [hY]
              have h7 := fun (l4 : Option Value) => ih (n + 1) l4 (by omega)
              rw [e9] at h7
              exact h7 _
            · exact absurd h9 (by omega)
          | succ k ih2 =>
            intro w hw
            obtain ⟨vA, vd, vN⟩ := zit2_van (n := n) (s := zsh sh n) (P := (zit (fHanS 76 n) (fNi0 sh n X.1) K, X.2)) (by decide) kR1 kd1 kN1 w
            have vR := zRs_ag (q := 76) (by decide) vA kR1
            generalize hY : zit2 (fVanS 76 E n (zsh sh n)) (zit (fHanS 76 n) (fNi0 sh n X.1) K, X.2) w = Y at vA vd vN vR ⊢
            obtain ⟨v1, v2, v3, v4, v5, v6, v7, v8, v9, v10, v11, v12, v13⟩ := id vR
            refine zA_iload_4 dX0_goThrough_44 ?_
            refine zA_aload_0 dX0_goThrough_46 ?_
            refine zA_getR sh_57 fX0_51 dX0_goThrough_47 rfl (rt_57_1 _) ?_
            refine zA_getI (v := (nI W)) sh_19 fX0_82 dX0_goThrough_50 rfl v1 ?_
            refine zA_icmp_geN 81 dX0_goThrough_53 (by decide) (by omega) (by omega) (fun h9 => ?_) (fun h9 => ?_)
            · exact absurd h9 (by omega)
            · refine zA_aload_0 dX0_goThrough_56 ?_
              refine zA_getR sh_57 fX0_55 dX0_goThrough_57 rfl (rt_57_14 _) ?_
              refine zA_iload_3 dX0_goThrough_60 ?_
              refine zA_iload_4 dX0_goThrough_61 ?_
              refine zA_cVi (ct_hasPlanB g Y.1 Y.2 76 (n := n) (v := w) (by omega) (by omega)) calX7_hasPlan stX7_hasPlan lX0_87 dX0_goThrough_63 (by decide) (by simp [Value.category]) rfl (Nat.le_refl _) (Nat.le_refl _) sh_76 rfl (fun zz gi' gl' gr' ⟨hz, q1, q2, q3⟩ => ?_)
              rw [hz, q1, q2, q3]
              clear hz q1 q2 q3
              refine zA_if_eqB 75 dX0_goThrough_66 (by decide) (fun b1 => ?_) (fun b1 => ?_)
              · refine zA_iinc_4 (v := nI (w + 1)) dX0_goThrough_75 (zn_inc _) rfl ?_
                refine zA_goto 44 dX0_goThrough_78 (by decide) ?_
                have e9 : zit2 (fVanS 76 E n (zsh sh n)) (zit (fHanS 76 n) (fNi0 sh n X.1) K, X.2) (w + 1) = Y := by show fVanS 76 E n (zsh sh n) (zit2 (fVanS 76 E n (zsh sh n)) (zit (fHanS 76 n) (fNi0 sh n X.1) K, X.2) w) w = _; rw [hY]; exact if_pos (Decidable.not_not.mp b1)
                have h7 := ih2 (w + 1) (by omega)
                rw [e9] at h7
                exact h7
              · refine zA_aload_0 dX0_goThrough_69 ?_
                refine zA_iload_4 dX0_goThrough_70 ?_
                refine zA_cVv (ct_tourB g Y.1 Y.2 (w := w) vR vd vN (by omega) (zsh_lt sh n) (by omega)) calX0_tour stX0_tour lX0_91 dX0_goThrough_72 (by decide) (by simp [Value.category]) rfl (Nat.le_refl _) (Nat.le_refl _) sh_57 rfl (fun gi' gl' gr' ⟨q1, q2, q3⟩ => ?_)
                rw [q1, q2, q3]
                clear q1 q2 q3
                refine zA_iinc_4 (v := nI (w + 1)) dX0_goThrough_75 (zn_inc _) rfl ?_
                refine zA_goto 44 dX0_goThrough_78 (by decide) ?_
                have e9 : zit2 (fVanS 76 E n (zsh sh n)) (zit (fHanS 76 n) (fNi0 sh n X.1) K, X.2) (w + 1) = fTour 76 E w n (zsh sh n) (Y.1, Y.2) := by show fVanS 76 E n (zsh sh n) (zit2 (fVanS 76 E n (zsh sh n)) (zit (fHanS 76 n) (fNi0 sh n X.1) K, X.2) w) w = _; rw [hY]; exact if_neg b1
                have h7 := ih2 (w + 1) (by omega)
                rw [e9] at h7
                exact h7
        exact inn W 0 (by omega)
  exact key 4 0 none (by omega)
