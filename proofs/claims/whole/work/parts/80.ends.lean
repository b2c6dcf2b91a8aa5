/-! ends -/
theorem rKn_cg {X X' : zm_I} (h1 : X' 101 = X 101) (h2 : X' 102 = X 102) : ∀ (m : Nat) (c : Nat → Int32), rKn X' m c = rKn X m c
  | 0, _ => rfl
  | m + 1, c => by
    show rKn X' m (if 0 ≤ X' 101 m then c else if c m = 0 then c else upd c (zi (X' 102 m)) (nI 0)) = rKn X m (if 0 ≤ X 101 m then c else if c m = 0 then c else upd c (zi (X 102 m)) (nI 0))
    rw [h1, h2]
    exact rKn_cg h1 h2 m _
theorem zSR_56 {q W Pn E K : Nat} {C C' X : zm_I} (hP4 : Pn ≤ 4) (hq : q = 27 ∨ q = 76) (hC : ∀ a, a ≠ 56 → C' a = C a) (h : zSR q W Pn E K C X) : zSR q W Pn E K C' X := by
  obtain ⟨a1, a2, a3, a4, a5, a6, a7, a8, a9, a10, a11, a12, a13, a14⟩ := h
  refine ⟨a1, a2, a3, fun v k hv hk => ?_, fun s a b hs ha hb => ?_, fun v hv => ?_, fun p k hp hk => ?_, fun n hn => ?_, fun e he => ?_, fun i hi => ?_, ?_, fun l hl => ?_, fun s hs => ?_, fun v hv => ?_⟩
  · rw [hC (5 + v) (by omega)]; exact a4 v k hv hk
  · rw [hC (14 + s) (by omega)]; exact a5 s a b hs ha hb
  · rw [hC 20 (by omega), hC 21 (by omega)]; exact a6 v hv
  · rw [hC (23 + p) (by omega)]; exact a7 p k hp hk
  · rw [hC 2 (by omega)]; exact a8 n hn
  · rw [hC (q + 1) (by omega), hC (q + 2) (by omega), hC (q + 3) (by omega), hC (q + 4) (by omega)]; exact a9 e he
  · rw [hC (q + 5) (by omega), hC (q + 6) (by omega), hC (q + 7) (by omega)]; exact a10 i hi
  · rw [hC 36 (by omega)]; exact a11
  · exact zLn_cg (fun a h1 h2 => hC a (by omega)) (fun a h1 h2 => rfl) (a12 l hl)
  · rw [hC (14 + s) (by omega)]; exact a13 s hs
  · rw [hC (5 + v) (by omega)]; exact a14 v hv
theorem zRs_56 {q W Pn E K : Nat} {C C' : zm_I} (hq : q = 27 ∨ q = 76) (h : ∀ a, a ≠ 56 → C' a = C a) (hR : zRs q W Pn E K C) : zRs q W Pn E K C' := by
  obtain ⟨a1, a2, a3, a4, a5, a6, a7, a8, a9, a10, a11, a12, a13⟩ := hR
  have hh : ∀ k, k ≤ 8 → C' (q + k) = C (q + k) := fun k hk => h _ (by omega)
  refine ⟨by rw [h 19 (by omega)]; exact a1, a2, by rw [h 19 (by omega)]; exact a3, a4, by rw [h q (by omega)]; exact a5, a6, ?_, by rw [h q (by omega)]; exact a8, a9, ?_, fun p hp => by rw [h (23 + p) (by omega)]; exact a11 p hp, fun v hv => by rw [h 20 (by omega)]; exact a12 v hv, ?_⟩
  · rw [hh 1 (by omega), hh 2 (by omega), hh 3 (by omega), hh 4 (by omega)]; exact a7
  · rw [hh 5 (by omega), hh 6 (by omega), hh 7 (by omega)]; exact a10
  · unfold zLaw at a13 ⊢
    rw [h 37 (by omega), h 38 (by omega), h 39 (by omega), h 40 (by omega)]
    exact a13
/-- the causes that stand in the class's cells are causes -/
def zC8 (C : zm_I) : Prop := ∀ e, zx (C 59 e) 8
theorem zC8_zs {C : zm_I} (h : zC8 C) {q j : Nat} {v : Int32} (hq : q ≠ 59) : zC8 (zs C q j v) := fun e => by rw [zs_nq (Ne.symm hq)]; exact h e
theorem zC8_ent {q w n s : Nat} {P : zm_I × zm_J} {e : Nat} (h : zC8 P.1) : zC8 (fEntS q w n s P e).1 := by
  have hF : zC8 (fForget P.1 e) := fun e' => by
    unfold fForget
    rw [zs_nq (by decide), zs_nq (by decide), zs_nq (by decide), zs_nq (by decide), zs_nq (by decide), zs_nq (by decide), zs_at]
    split
    · exact zx_of (by decide) (by decide)
    · exact h e'
  have hM : ∀ cl v p, zC8 (zs (fForget P.1 e) 59 e (fCau (fForget P.1 e) cl w v p s n).1) := fun cl v p e' => by
    rw [zs_at]
    split
    · obtain ⟨k, hk, ek⟩ := fCau_rng (fForget P.1 e) cl w v p s n
      rw [ek]
      exact zx_of (by omega) (by decide)
    · exact hF e'
  unfold fEntS
  split
  · split
    · split
      · intro e'
        have hc : ∀ (M : zm_I) (gl : zm_J) (i v p n : Nat), (fShow M gl i v p n).1 59 = M 59 := fun M gl i v p n => by
          unfold fShow
          dsimp only
          iterate 14 rw [zs_nq (by decide)]
        have hd : ∀ (M : zm_I) (i w v s : Nat), fDrive M i w v s 59 = M 59 := fun M i w v s => by
          unfold fDrive
          rw [zs_nq (by decide), zs_nq (by decide), zs_nq (by decide), zs_nq (by decide)]
        rw [hc, hd]
        exact hM _ _ _ e'
      · exact hM _ _ _
    · exact h
  · exact h
theorem zC8_it2 {S : zm_I × zm_J → Nat → zm_I × zm_J} (hS : ∀ P i, zC8 P.1 → zC8 (S P i).1) {P : zm_I × zm_J} (h : zC8 P.1) : ∀ n, zC8 (zit2 S P n).1
  | 0 => h
  | n + 1 => hS _ n (zC8_it2 hS h n)
theorem zC8_van {q E n s : Nat} (P : zm_I × zm_J) (w : Nat) (h : zC8 P.1) : zC8 (fVanS q E n s P w).1 := by
  unfold fVanS
  split
  · exact h
  · unfold fTour
    exact zC8_it2 (fun P i hP => zC8_ent hP) (P := (zs (zs P.1 57 18 (nI 0)) 57 19 (nI 0), P.2)) (zC8_zs (zC8_zs h (by decide)) (by decide)) E
theorem zC8_eq {C C' : zm_I} (e : C' 59 = C 59) (h : zC8 C) : zC8 C' := fun i => by rw [e]; exact h i
theorem zC8_ni {q : Nat} {sh : Int32} {W Pn E K : Nat} (P : zm_I × zm_J) (n : Nat) (h : zC8 P.1) : zC8 (fNiS q sh W Pn E K P n).1 := by
  unfold fNiS
  dsimp only
  refine zC8_eq (by rw [zit_nq (fEnd2S_nq (by decide)), zit_nq (fEnd1S_nq (by decide))]) (zC8_it2 (fun P w hP => zC8_van P w hP) (P := (zit (fHanS q n) (fNi0 sh n P.1) K, P.2)) ?_ W)
  refine zC8_eq (zit_nq (fHanS_nq (by decide)) _ K) ?_
  unfold fNi0
  exact zC8_zs (zC8_zs (zC8_zs h (by decide)) (by decide)) (by decide)
theorem zC8_go {q : Nat} {sh : Int32} {W Pn E K : Nat} {P : zm_I × zm_J} (h : zC8 P.1) : zC8 (fGo q sh W Pn E K P).1 := by
  unfold fGo
  dsimp only
  refine zC8_eq (by rw [zit_nq (fFineS_nq (by decide)), zit_nq (fFuelS_nq (by decide))]) (zC8_it2 (fun P n hP => zC8_ni P n hP) (P := (fBegin P.1 W Pn, P.2)) ?_ 4)
  exact zC8_eq (fBegin_68 P.1 (by omega)) h
/-- what the question after the ends leaves alone -/
def zXe (X X' : zm_I) : Prop := (∀ a, (a < 122 ∨ 132 < a) → a ≠ 87 → a ≠ 105 → a ≠ 104 → X' a = X a) ∧ ∀ j, (j < 60 ∨ 82 < j) → j ≠ 2 → X' 87 j = X 87 j
theorem ct_rEnds (g : zm_G) (gi : zm_I) (gl : zm_J) (r : Nat) (C : zm_I) (cl : zm_J) {V W Pn E K Rd T : Nat} (hH : zRH V W Pn E K Rd C gi) (hT : gi 87 22 = nI T) (hT40 : T ≤ 40) (hN : zNt T C gi) (h8 : zC8 C) (a b : Int32)  : zC_i g yX11_ends mX11_ends 7 [.ref 87, .int a, .int b] zSH gi gl (zRT r) (fun z gi' gl' gr' => (((nI 0 ≤ a ∧ a ≤ nI T) ∧ (nI 0 ≤ b ∧ b ≤ nI 2)) ∧ z = fEnL (fGo 27 (nI 0) W Pn E K (fSettle C (zi a), cl)).1 (zi b) E ∧ zXe gi gi' ∧ (∀ q, q ≠ 121 → gl' q = gl q) ∧ gr' = zRT r) ∨ (¬ ((nI 0 ≤ a ∧ a ≤ nI T) ∧ (nI 0 ≤ b ∧ b ≤ nI 2)) ∧ z = -1 ∧ zXe gi gi' ∧ (∀ q, q ≠ 121 → gl' q = gl q) ∧ gr' = zRT r)) := by
  obtain ⟨hRs, hS0, hPl, hDue, ⟨hV, hV8, hR, hRd, hw, hTb, hC⟩, hE, hE24, hW, hP⟩ := id hH
  have hW3 := hRs.2.1
  have hP4 := hRs.2.2.2.1
  refine zC_i_of [some (.ref 87), some (.int a), some (.int b), none, none, none, none, none] (by decide) rfl rfl (Nat.le_of_ble_eq_true rfl) (fun x => ?_)
  refine zA_aload_0 dX11_ends_0 ?_
  refine zA_iconst (nI 0) dX11_ends_1 ic_0 ?_
  refine zS_putI sh_87 fX11_163 dX11_ends_2 rfl rfl ?_
  refine zA_iload_1 dX11_ends_5 ?_
  refine zA_if_lt 26 dX11_ends_6 (by decide) (fun g0 => ?_) (fun g0 => ?_)
  · refine zA_iconst (-1) dX11_ends_26 ic_m1 ?_
    exact zB_iret rfl dX11_ends_27 (Or.inr ⟨fun q => absurd g0 (Int32.not_lt.mpr q.1.1), rfl, ⟨fun a _ h _ _ => zs_nq h, fun j _ h => zs_nj h⟩, fun _ _ => rfl, rfl⟩)
  · refine zA_iload_1 dX11_ends_9 ?_
    refine zA_aload_0 dX11_ends_10 ?_
    refine zA_getI (v := (nI T)) sh_87 fX11_436 dX11_ends_11 rfl hT ?_
    refine zA_icmp_gt 26 dX11_ends_14 (by decide) (fun g1 => ?_) (fun g1 => ?_)
    · refine zA_iconst (-1) dX11_ends_26 ic_m1 ?_
      exact zB_iret rfl dX11_ends_27 (Or.inr ⟨fun q => absurd g1 (Int32.not_lt.mpr q.1.2), rfl, ⟨fun a _ h _ _ => zs_nq h, fun j _ h => zs_nj h⟩, fun _ _ => rfl, rfl⟩)
    · refine zA_iload_2 dX11_ends_17 ?_
      refine zA_iconst (nI 0) dX11_ends_18 ic_0 ?_
      refine zA_iconst (nI 2) dX11_ends_19 ic_2 ?_
      refine zA_cSi (ct_rIsIn g _ _ _ b ((nI 0)) ((nI 2))) calX11_isIn stX11_isIn lX11_172 dX11_ends_20 (by decide) (by simp [Value.category]) rfl (Nat.le_refl _) (Nat.le_refl _) (fun zz gi' gl' gr' ⟨hz, q1, q2, q3⟩ => ?_)
      rw [hz, q1, q2, q3]
      clear hz q1 q2 q3
      refine zA_if_neB 28 dX11_ends_23 (by decide) (fun g2 => ?_) (fun g2 => ?_)
      · have g3 : nI 0 ≤ a ∧ a ≤ nI T := ⟨Int32.not_lt.mp g0, Int32.not_lt.mp g1⟩
        clear g0 g1
        obtain ⟨n, hn, rfl⟩ := zwi_nat g3 (by omega)
        obtain ⟨k, hk, rfl⟩ := zwi_nat g2 (by omega)
        have hzn : zi (nI n) = n := zi_nI (by omega)
        have hzk : zi (nI k) = k := zi_nI (by omega)
        rw [hzn, hzk]
        refine zA_aload_0 dX11_ends_28 ?_
        refine zA_iload_1 dX11_ends_29 ?_
        refine zA_cVv (ct_rKnow g (zs gi 87 2 (nI 0)) gl r C hN hT40 hn) calX11_know stX11_know lX11_439 dX11_ends_30 (by decide) (by simp [Value.category]) rfl (Nat.le_refl _) (Nat.le_refl _) sh_87 rfl (fun X0 gl0 gr0 ⟨hX0, ⟨c0, hc0, h104⟩, e2, e3⟩ => ?_)
        rw [e2, e3]
        clear e2 e3
        have x0 : ∀ a, a ≠ 104 → a ≠ 87 → X0 a = gi a := fun a h1 h2 => (hX0 a h1).trans (zs_nq h2)
        have x087 : ∀ j, j ≠ 2 → X0 87 j = gi 87 j := fun j hj => by rw [hX0 87 (by decide), zs_nj hj]
        have hH0 : zRH V W Pn E K Rd C X0 := by
          refine ⟨hRs, fun t ht => ?_, hPl, hDue, ⟨by rw [x087 3 (by decide)]; exact hV, hV8, by rw [x087 5 (by decide)]; exact hR, hRd, ?_, fun s hs => ?_, fun s hs => by rw [x0 (14 + s) (by omega) (by omega)]; exact hC s hs⟩, by rw [x087 18 (by decide)]; exact hE, hE24, by rw [x087 12 (by decide)]; exact hW, by rw [x087 15 (by decide)]; exact hP⟩
          · refine zSR_cgX (hS0 t ht) (fun a ha => ?_) ?_ ?_ ?_
            · by_cases e : a = 105
              · subst e; rw [va_up_self, va_up_self]
              · rw [zm_une e, zm_une e, x0 a (by omega) (by omega)]
            · rw [zm_une (by decide), zm_une (by decide), x087 12 (by decide)]
            · rw [zm_une (by decide), zm_une (by decide), x087 15 (by decide)]
            · rw [zm_une (by decide), zm_une (by decide), x087 20 (by decide)]
          · unfold zRw
            rw [x0 90 (by decide) (by decide), x0 91 (by decide) (by decide), x0 92 (by decide) (by decide)]
            exact hw
          · have e : zRo X0 Rd s = zRo gi Rd s := by
              unfold zRo zOp
              rw [x0 90 (by decide) (by decide), x0 91 (by decide) (by decide), x0 92 (by decide) (by decide), x0 93 (by decide) (by decide)]
            rw [e, x0 (14 + s) (by omega) (by omega)]
            exact hTb s hs
        obtain ⟨_, _, _, _, ⟨hV', _, hR', _, hw', hT', _⟩, hE', _, _, _⟩ := id hH0
        refine zA_aload_0 dX11_ends_33 ?_
        refine zA_cVv (ct_rLay g X0 gl r hV' hV8 hR' hRd hw' hT') calX11_lay stX11_lay lX11_199 dX11_ends_34 (by decide) (by simp [Value.category]) rfl (Nat.le_refl _) (Nat.le_refl _) sh_87 rfl (fun X1 gl1 gr1 ⟨hL, e2, e3⟩ => ?_)
        rw [e2, e3]
        clear e2 e3
        have hSX : zSR 27 W Pn E K C X1 := zRH_sr hH0 hL
        have x18 : X1 87 18 = nI E := by rw [hL.1 87 (by decide)]; exact hE'
        have hS56 : ∀ a, a ≠ 56 → fSettle C n a = C a := fun a ha => fSettle_nq C n ha
        have hRs2 := zRs_56 (q := 27) (by decide) hS56 hRs
        have hSX2 := zSR_56 (q := 27) hP4 (by decide) hS56 hSX
        have hPl2 : zPlH 27 W E (fSettle C n) := by
          unfold zPlH
          rw [hS56 (27 + 8) (by decide), hS56 (27 + 1) (by decide), hS56 (27 + 2) (by decide)]
          exact hPl
        refine zA_aload_0 dX11_ends_37 ?_
        refine zA_iconst (nI 0) dX11_ends_38 ic_0 ?_
        refine zA_aload_0 dX11_ends_39 ?_
        refine zA_getI (v := (nI E)) sh_87 fX11_202 dX11_ends_40 rfl x18 ?_
        refine zA_cVv (ct_rRunIt g X1 gl r (fSettle C n) cl (by decide) hRs2 hSX2 hPl2 (fun p hp => by rw [hS56 (23 + p) (by omega)]; exact hDue p hp) (nI 0)) calX11_runIt stX11_runIt lX11_416 dX11_ends_43 (by decide) (by simp [Value.category]) rfl (Nat.le_refl _) (Nat.le_refl _) sh_87 rfl (fun X2 gl2 gr2 ⟨hF, hBk, hX2, hY2, e3⟩ => ?_)
        rw [e3]
        clear e3
        have hGa := fGo_ag (q := 27) (sh := nI 0) (P := (fSettle C n, cl)) (by decide) hRs2
        have hG8 : zC8 (fGo 27 (nI 0) W Pn E K (fSettle C n, cl)).1 := zC8_go (zC8_eq (hS56 59 (by decide)) h8)
        have hxe : zXe gi X2 := ⟨fun a h1 h2 h3 h4 => by rw [hX2.1 a h1 h2, hL.1 a h3, x0 a h4 h2], fun j h1 h2 => by rw [hX2.2 j h1, hL.1 87 (by decide), x087 j h2]⟩
        have x2 : ∀ a, (a < 122 ∨ 132 < a) → a ≠ 87 → a ≠ 105 → a ≠ 104 → X2 a = gi a := hxe.1
        have hN2 : zNt T C X2 := by
          unfold zNt
          rw [x2 101 (by decide) (by decide) (by decide) (by decide), x2 102 (by decide) (by decide) (by decide) (by decide), x2 103 (by decide) (by decide) (by decide) (by decide)]
          exact hN
        have h104' : X2 104 = rKn X2 n c0 := by
          rw [hX2.1 104 (by decide) (by decide), hL.1 104 (by decide), h104]
          exact (rKn_cg (by rw [x2 101 (by decide) (by decide) (by decide) (by decide)]; rfl) (by rw [x2 102 (by decide) (by decide) (by decide) (by decide)]; rfl) n c0).symm
        have k18 : X2 87 18 = nI E := by rw [hX2.2 18 (by omega)]; exact x18
        have k22 : X2 87 22 = nI T := by rw [hxe.2 22 (by omega) (by decide)]; exact hT
        have hS2 : zSR 27 W Pn E K (fSettle C n) X2 := zSR_ag hP4 (by decide) (zAg.rf _) hX2 hSX2
        have hRn := fun (v : Nat) (hv : v < 8) (m : Nat) => rRp_rng hN2 (c := X2 104) (v := v) (n := m) hv T (Nat.le_refl _)
        refine zA_iconst (nI 0) dX11_ends_46 ic_0 ?_
        refine zA_istore_3 dX11_ends_47 rfl ?_
        refine zA_iconst (nI 0) dX11_ends_48 ic_0 ?_
        refine zA_istore_4 dX11_ends_49 rfl ?_
        refine zA_iconst (nI 0) dX11_ends_51 ic_0 ?_
        refine zA_istore_5 dX11_ends_52 rfl ?_
        refine zA_iconst (nI 0) dX11_ends_54 ic_0 ?_
        refine zA_istore_6 dX11_ends_55 rfl ?_
        have key : ∀ (m e : Nat) (l7 : Option Value), e + m = E → zB_i x g mX11_ends 7 zSH (fun z gi' gl' gr' => (((nI 0 ≤ nI n ∧ nI n ≤ nI T) ∧ (nI 0 ≤ nI k ∧ nI k ≤ nI 2)) ∧ z = fEnL (fGo 27 (nI 0) W Pn E K (fSettle C n, cl)).1 (k) E ∧ zXe gi gi' ∧ (∀ q, q ≠ 121 → gl' q = gl q) ∧ gr' = zRT r) ∨ (¬ ((nI 0 ≤ nI n ∧ nI n ≤ nI T) ∧ (nI 0 ≤ nI k ∧ nI k ≤ nI 2)) ∧ z = -1 ∧ zXe gi gi' ∧ (∀ q, q ≠ 121 → gl' q = gl q) ∧ gr' = zRT r)) 57 [some (.ref 87), some (.int (nI n)), some (.int (nI k)), some (.int (fEnL (fGo 27 (nI 0) W Pn E K (fSettle C n, cl)).1 0 e)), some (.int (fEnL (fGo 27 (nI 0) W Pn E K (fSettle C n, cl)).1 1 e)), some (.int (fEnL (fGo 27 (nI 0) W Pn E K (fSettle C n, cl)).1 2 e)), some (.int (nI e)), l7] [] X2 gl2 (zRT r) := by
          intro m
          induction m with
          | zero =>
            intro e l7 he
            refine zA_iload_6 dX11_ends_57 ?_
            refine zA_aload_0 dX11_ends_59 ?_
            refine zA_getI (v := (nI E)) sh_87 fX11_202 dX11_ends_60 rfl k18 ?_
            refine zA_icmp_geN 179 dX11_ends_63 (by decide) (by omega) (by omega) (fun h => ?_) (fun h => ?_)
            · have e9 : e = E := by omega
              rw [e9]
              rcases (show k = 0 ∨ k = 1 ∨ k = 2 by omega) with rfl | rfl | rfl
              · refine zA_iload_2 dX11_ends_179 ?_
                refine zA_if_ne 187 dX11_ends_180 (by decide) (fun hh => absurd hh (by decide)) (fun _ => ?_)
                refine zA_iload_3 dX11_ends_183 ?_
                refine zA_goto 199 dX11_ends_184 (by decide) ?_
                exact zB_iret rfl dX11_ends_199 (Or.inl ⟨⟨g3, g2⟩, rfl, hxe, hY2, rfl⟩)
              · refine zA_iload_2 dX11_ends_179 ?_
                refine zA_if_ne 187 dX11_ends_180 (by decide) (fun _ => ?_) (fun hh => absurd hh (by decide))
                refine zA_iload_2 dX11_ends_187 ?_
                refine zA_iconst (nI 1) dX11_ends_188 ic_1 ?_
                refine zA_icmp_neN 197 dX11_ends_189 (by decide) (by decide) (by decide) (fun hh => absurd hh (by decide)) (fun _ => ?_)
                refine zA_iload_4 dX11_ends_192 ?_
                refine zA_goto 199 dX11_ends_194 (by decide) ?_
                exact zB_iret rfl dX11_ends_199 (Or.inl ⟨⟨g3, g2⟩, rfl, hxe, hY2, rfl⟩)
              · refine zA_iload_2 dX11_ends_179 ?_
                refine zA_if_ne 187 dX11_ends_180 (by decide) (fun _ => ?_) (fun hh => absurd hh (by decide))
                refine zA_iload_2 dX11_ends_187 ?_
                refine zA_iconst (nI 1) dX11_ends_188 ic_1 ?_
                refine zA_icmp_neN 197 dX11_ends_189 (by decide) (by decide) (by decide) (fun _ => ?_) (fun hh => absurd hh (by decide))
                refine zA_iload_5 dX11_ends_197 ?_
                exact zB_iret rfl dX11_ends_199 (Or.inl ⟨⟨g3, g2⟩, rfl, hxe, hY2, rfl⟩)
            · exact absurd h (by omega)
          | succ m ih =>
            intro e l7 he
            refine zA_iload_6 dX11_ends_57 ?_
            refine zA_aload_0 dX11_ends_59 ?_
            refine zA_getI (v := (nI E)) sh_87 fX11_202 dX11_ends_60 rfl k18 ?_
            refine zA_icmp_geN 179 dX11_ends_63 (by decide) (by omega) (by omega) (fun h => ?_) (fun h => ?_)
            · exact absurd h (by omega)
            · obtain ⟨b1, b2, b3, b4⟩ := hS2.2.2.2.2.2.2.2.2.1 e h
              obtain ⟨⟨n1, n2⟩, _, ⟨v1, v2⟩, _⟩ := hRs2.2.2.2.2.2.2.1 e h
              have g30 : (fGo 27 (nI 0) W Pn E K (fSettle C n, cl)).1 30 e = fSettle C n (27 + 3) e := by rw [hGa 30 (by omega)]
              have g28 : (fGo 27 (nI 0) W Pn E K (fSettle C n, cl)).1 28 e = fSettle C n (27 + 1) e := by rw [hGa 28 (by omega)]
              have c130 : X2 130 (7 * e) = (fGo 27 (nI 0) W Pn E K (fSettle C n, cl)).1 59 e := hF.1 e 0 h (by decide)
              obtain ⟨q1, q2⟩ := hG8 e
              have hst : ∀ j, fEnL (fGo 27 (nI 0) W Pn E K (fSettle C n, cl)).1 j (e + 1) = fEnS (fGo 27 (nI 0) W Pn E K (fSettle C n, cl)).1 j (fEnL (fGo 27 (nI 0) W Pn E K (fSettle C n, cl)).1 j e) e := fun j => rfl
              have ih2 := fun (l7 : Option Value) => ih (e + 1) l7 (by omega)
              rw [hst 0, hst 1, hst 2] at ih2
              unfold fEnS at ih2
              rw [g30, g28] at ih2
              generalize hzv : zi (fSettle C n (27 + 3) e) = v at *
              generalize hzm : zi (fSettle C n (27 + 1) e) = nn at *
              have hKn := zKnown hN2 hT40 hn hc0 v2 n2
              rw [← h104'] at hKn
              have hG56 : (fGo 27 (nI 0) W Pn E K (fSettle C n, cl)).1 56 (v * 4 + nn) = rRp X2 (X2 104) (nI v) (nI nn) T := by rw [hGa 56 (by omega)]; exact hKn
              have hse : X2 89 (8 * v + 1) = (fGo 27 (nI 0) W Pn E K (fSettle C n, cl)).1 (5 + v) 1 := by rw [hGa (5 + v) (by omega)]; exact hS2.2.2.2.1 v 1 v2 (by decide)
              rw [hG56] at ih2
              refine zA_aload_0 dX11_ends_66 ?_
              refine zA_getR sh_87 fX11_142 dX11_ends_67 rfl (rt_87_75 _) ?_
              refine zA_bipush (nI 7) dX11_ends_70 bc_7 ?_
              refine zA_iload_6 dX11_ends_72 ?_
              refine zA_imulN dX11_ends_74 ?_
              refine zA_iald (v := ((fGo 27 (nI 0) W Pn E K (fSettle C n, cl)).1 59 e)) (7 * e) sh_130 dX11_ends_75 rfl (by omega) (by decide) c130 ?_
              refine zA_if_le 82 dX11_ends_76 (by decide) (fun h1 => ?_) (fun h1 => ?_)
              · have h0 : (fGo 27 (nI 0) W Pn E K (fSettle C n, cl)).1 59 e = 0 := by
                  rw [q1] at h1 ⊢
                  have := (nI_leI (b := 0) (by omega) (by decide)).mp h1
                  rw [show zi ((fGo 27 (nI 0) W Pn E K (fSettle C n, cl)).1 59 e) = 0 by omega]
                  rfl
                rw [if_pos h0, if_pos h0, if_pos h0] at ih2
                refine zA_aload_0 dX11_ends_82 ?_
                refine zA_aload_0 dX11_ends_83 ?_
                refine zA_getR sh_87 fX11_43 dX11_ends_84 rfl (rt_87_19 _) ?_
                refine zA_iconst (nI 4) dX11_ends_87 ic_4 ?_
                refine zA_iload_6 dX11_ends_88 ?_
                refine zA_imulN dX11_ends_90 ?_
                refine zA_iconst (nI 2) dX11_ends_91 ic_2 ?_
                refine zA_iaddN dX11_ends_92 ?_
                refine zA_iald (v := (nI v)) ((4 * e) + 2) sh_99 dX11_ends_93 rfl (by omega) (by decide) (b3.trans v1) ?_
                refine zA_aload_0 dX11_ends_94 ?_
                refine zA_getR sh_87 fX11_43 dX11_ends_95 rfl (rt_87_19 _) ?_
                refine zA_iconst (nI 4) dX11_ends_98 ic_4 ?_
                refine zA_iload_6 dX11_ends_99 ?_
                refine zA_imulN dX11_ends_101 ?_
                refine zA_iald (v := (nI nn)) (4 * e) sh_99 dX11_ends_102 rfl (by omega) (by decide) (b1.trans n1) ?_
                refine zA_cVi (ct_rReported g X2 gl2 r (v := v) (n := nn) k22 hT40) calX11_reported stX11_reported lX11_442 dX11_ends_103 (by decide) (by simp [Value.category]) rfl (Nat.le_refl _) (Nat.le_refl _) sh_87 rfl (fun zz gi' gl' gr' ⟨hz, e1, e2, e3⟩ => ?_)
                rw [hz, e1, e2, e3]
                clear hz e1 e2 e3
                have hrg := hRn v v2 nn
                generalize rRp X2 (X2 104) (nI v) (nI nn) T = rr at *
                rcases hrg with hrg | ⟨hrg, hrl⟩
                · subst hrg
                  refine zA_istore_7 dX11_ends_106 rfl ?_
                  refine zA_iload_3 dX11_ends_108 ?_
                  refine zA_iload_7 dX11_ends_109 ?_
                  refine zA_if_ge 118 dX11_ends_111 (by decide) (fun hh => absurd hh (by decide)) (fun _ => ?_)
                  refine zA_iconst (nI 0) dX11_ends_114 ic_0 ?_
                  refine zA_goto 120 dX11_ends_115 (by decide) ?_
                  refine zA_iadd dX11_ends_120 ?_
                  refine zA_istore_3 dX11_ends_121 rfl ?_
                  refine zA_iload_4 dX11_ends_122 ?_
                  refine zA_iload_7 dX11_ends_124 ?_
                  refine zA_if_ge 153 dX11_ends_126 (by decide) (fun hh => absurd hh (by decide)) (fun _ => ?_)
                  refine zA_aload_0 dX11_ends_129 ?_
                  refine zA_getR sh_87 fX11_13 dX11_ends_130 rfl (rt_87_4 _) ?_
                  refine zA_bipush (nI 8) dX11_ends_133 bc_8 ?_
                  refine zA_aload_0 dX11_ends_135 ?_
                  refine zA_getR sh_87 fX11_43 dX11_ends_136 rfl (rt_87_19 _) ?_
                  refine zA_iconst (nI 4) dX11_ends_139 ic_4 ?_
                  refine zA_iload_6 dX11_ends_140 ?_
                  refine zA_imulN dX11_ends_142 ?_
                  refine zA_iconst (nI 2) dX11_ends_143 ic_2 ?_
                  refine zA_iaddN dX11_ends_144 ?_
                  refine zA_iald (v := (nI v)) ((4 * e) + 2) sh_99 dX11_ends_145 rfl (by omega) (by decide) (b3.trans v1) ?_
                  refine zA_imulN dX11_ends_146 ?_
                  refine zA_iconst (nI 1) dX11_ends_147 ic_1 ?_
                  refine zA_iaddN dX11_ends_148 ?_
                  refine zA_iald (v := ((fGo 27 (nI 0) W Pn E K (fSettle C n, cl)).1 (5 + v) 1)) ((8 * v) + 1) sh_89 dX11_ends_149 rfl (by omega) (by decide) hse ?_
                  refine zA_goto 155 dX11_ends_150 (by decide) ?_
                  refine zA_iadd dX11_ends_155 ?_
                  refine zA_istore_4 dX11_ends_156 rfl ?_
                  refine zA_iload_5 dX11_ends_158 ?_
                  refine zA_iload_7 dX11_ends_160 ?_
                  refine zA_if_ge 169 dX11_ends_162 (by decide) (fun hh => absurd hh (by decide)) (fun _ => ?_)
                  refine zA_iconst (nI 1) dX11_ends_165 ic_1 ?_
                  refine zA_goto 170 dX11_ends_166 (by decide) ?_
                  refine zA_iadd dX11_ends_170 ?_
                  refine zA_istore_5 dX11_ends_171 rfl ?_
                  refine zA_iinc_6 (v := nI (e + 1)) dX11_ends_173 (zn_inc _) rfl ?_
                  refine zA_goto 57 dX11_ends_176 (by decide) ?_
                  exact ih2 _
                · have hp : 0 ≤ rr := by rw [hrg]; exact nI_pos' (by omega)
                  have hm1 : ¬ rr = -1 := fun z => by rw [z] at hp; exact absurd hp (by decide)
                  have f0 : ∀ se, fEnd rr se 0 = rr := fun se => if_neg hm1
                  have f1 : ∀ se, fEnd rr se 1 = rr := fun se => if_neg hm1
                  have f2 : ∀ se, fEnd rr se 2 = nI 0 := fun se => if_neg hm1
                  rw [f0, f1, f2] at ih2
                  refine zA_istore_7 dX11_ends_106 rfl ?_
                  refine zA_iload_3 dX11_ends_108 ?_
                  refine zA_iload_7 dX11_ends_109 ?_
                  refine zA_if_ge 118 dX11_ends_111 (by decide) (fun p1 => ?_) (fun p1 => ?_)
                  · refine zA_iload_7 dX11_ends_118 ?_
                    refine zA_iadd dX11_ends_120 ?_
                    refine zA_istore_3 dX11_ends_121 rfl ?_
                    refine zA_iload_4 dX11_ends_122 ?_
                    refine zA_iload_7 dX11_ends_124 ?_
                    refine zA_if_ge 153 dX11_ends_126 (by decide) (fun p2 => ?_) (fun p2 => ?_)
                    · refine zA_iload_7 dX11_ends_153 ?_
                      refine zA_iadd dX11_ends_155 ?_
                      refine zA_istore_4 dX11_ends_156 rfl ?_
                      refine zA_iload_5 dX11_ends_158 ?_
                      refine zA_iload_7 dX11_ends_160 ?_
                      refine zA_if_ge 169 dX11_ends_162 (by decide) (fun p3 => ?_) (fun p3 => ?_)
                      · refine zA_iconst (nI 0) dX11_ends_169 ic_0 ?_
                        refine zA_iadd dX11_ends_170 ?_
                        refine zA_istore_5 dX11_ends_171 rfl ?_
                        refine zA_iinc_6 (v := nI (e + 1)) dX11_ends_173 (zn_inc _) rfl ?_
                        refine zA_goto 57 dX11_ends_176 (by decide) ?_
                        exact ih2 _
                      · exact absurd hp p3
                    · exact absurd hp p2
                  · exact absurd hp p1
              · have h0 : ¬ (fGo 27 (nI 0) W Pn E K (fSettle C n, cl)).1 59 e = 0 := fun z => h1 (by rw [z]; exact Int32.le_refl _)
                rw [if_neg h0, if_neg h0, if_neg h0] at ih2
                refine zA_goto 173 dX11_ends_79 (by decide) ?_
                refine zA_iinc_6 (v := nI (e + 1)) dX11_ends_173 (zn_inc _) rfl ?_
                refine zA_goto 57 dX11_ends_176 (by decide) ?_
                exact ih2 _
        exact key E 0 _ (by omega)
      · refine zA_iconst (-1) dX11_ends_26 ic_m1 ?_
        exact zB_iret rfl dX11_ends_27 (Or.inr ⟨fun q => g2 q.2, rfl, ⟨fun a _ h _ _ => zs_nq h, fun j _ h => zs_nj h⟩, fun _ _ => rfl, rfl⟩)
