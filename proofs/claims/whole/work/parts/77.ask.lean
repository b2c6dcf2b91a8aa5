/-! ===== what the reference's questions need ===== -/
def zSR0 (q W Pn E K : Nat) (C X : zm_I) : Prop := ∀ t : Nat → Int32, (∀ s a b, s < 4 → a < 8 → b < 8 → t (64 * s + 8 * a + b) = C (14 + s) (a * 8 + b)) → zSR q W Pn E K C (va_up X 105 t)
def zPlH (q W E : Nat) (C : zm_I) : Prop := ∀ n w e, n < 4 → w < W → e < E → C (q + 8) (n * 3 + w) ≤ 0 → ¬ (C (q + 1) e = nI n ∧ C (q + 2) e = nI w)
def zRdH (V Rd : Nat) (C gi : zm_I) : Prop := gi 87 3 = nI V ∧ V ≤ 8 ∧ gi 87 5 = nI Rd ∧ Rd ≤ 14 ∧ zRw gi V Rd ∧ (∀ s, s < 4 → zPt (gi (14 + s)) ∧ zTab (zRo gi Rd s) (zT8 (gi (14 + s)))) ∧ ∀ s, s < 4 → gi (14 + s) = C (14 + s)
def zRH (V W Pn E K Rd : Nat) (C gi : zm_I) : Prop := zRs 27 W Pn E K C ∧ zSR0 27 W Pn E K C gi ∧ zPlH 27 W E C ∧ (∀ p, p < Pn → zx (C (23 + p) 5) 5) ∧ zRdH V Rd C gi ∧ gi 87 18 = nI E ∧ E ≤ 24 ∧ gi 87 12 = nI W ∧ gi 87 15 = nI Pn
/-- what a question leaves alone -/
def zXh (X X' : zm_I) : Prop := (∀ a, (a < 122 ∨ 132 < a) → a ≠ 87 → a ≠ 105 → X' a = X a) ∧ ∀ j, (j < 60 ∨ 82 < j) → j ≠ 2 → X' 87 j = X 87 j
theorem zXh_rf (X : zm_I) : zXh X X := ⟨fun _ _ _ _ => rfl, fun _ _ _ => rfl⟩
theorem zXh_tr {A B D : zm_I} (h : zXh A B) (h2 : zXh B D) : zXh A D := ⟨fun a h3 h4 h5 => (h2.1 a h3 h4 h5).trans (h.1 a h3 h4 h5), fun j h3 h4 => (h2.2 j h3 h4).trans (h.2 j h3 h4)⟩
theorem zXh_g {A B : zm_I} (h : zXg A B) : zXh A B := ⟨fun a h3 h4 _ => h.1 a h3 h4, fun j h3 _ => h.2 j h3⟩
theorem zXh_thr (X : zm_I) (v : Int32) : zXh X (zs X 87 2 v) := ⟨fun a _ h4 _ => zs_nq h4, fun j _ h4 => zs_nj h4⟩
theorem zXh_lay {X X' : zm_I} (h : ∀ a, a ≠ 105 → X' a = X a) : zXh X X' := ⟨fun a _ _ h5 => h a h5, fun j _ _ => by rw [h 87 (by decide)]⟩
theorem va_up_id {X X' : zm_I} (h : ∀ a, a ≠ 105 → X' a = X a) : va_up X 105 (X' 105) = X' := funext fun a => by
  by_cases e : a = 105
  · subst e; rw [va_up_self]
  · rw [zm_une e]; exact (h a e).symm
theorem zLn_cgX {C X X' : zm_I} {l : Nat} (hx : ∀ a, 109 ≤ a → a ≤ 116 → X' a = X a) (h : zLn C X l) : zLn C X' l := zLn_cg (fun _ _ _ => rfl) hx h
theorem zSR_cgX {q W Pn E K : Nat} {C X X' : zm_I} (h : zSR q W Pn E K C X) (ha : ∀ a, (a = 89 ∨ (95 ≤ a ∧ a ≤ 100) ∨ a = 105 ∨ a = 107 ∨ (109 ≤ a ∧ a ≤ 116)) → X' a = X a) (h12 : X' 87 12 = X 87 12) (h15 : X' 87 15 = X 87 15) (h20 : X' 87 20 = X 87 20) : zSR q W Pn E K C X' := by
  obtain ⟨a1, a2, a3, a4, a5, a6, a7, a8, a9, a10, a11, a12, a13, a14⟩ := h
  unfold zSR
  rw [h12, h15, h20, ha 89 (by omega), ha 105 (by omega), ha 95 (by omega), ha 96 (by omega), ha 97 (by omega), ha 98 (by omega), ha 99 (by omega), ha 100 (by omega), ha 107 (by omega)]
  exact ⟨a1, a2, a3, a4, a5, a6, a7, a8, a9, a10, a11, fun l hl => zLn_cgX (fun a h1 h2 => ha a (by omega)) (a12 l hl), a13, a14⟩
theorem zSR0_thr {q W Pn E K : Nat} {C X : zm_I} {v : Int32} (h : zSR0 q W Pn E K C X) : zSR0 q W Pn E K C (zs X 87 2 v) := fun t ht => by
  refine zSR_cgX (h t ht) (fun a ha => ?_) rfl rfl rfl
  by_cases e : a = 105
  · subst e; rw [va_up_self, va_up_self]
  · rw [zm_une e, zm_une e, zs_nq (by omega)]
theorem zRH_thr {V W Pn E K Rd : Nat} {C gi : zm_I} {v : Int32} (h : zRH V W Pn E K Rd C gi) : zRH V W Pn E K Rd C (zs gi 87 2 v) := by
  obtain ⟨a1, a2, a3, a4, ⟨b1, b2, b3, b4, b5, b6, b7⟩, a6, a7, a8, a9⟩ := h
  refine ⟨a1, zSR0_thr a2, a3, a4, ⟨b1, b2, b3, b4, b5, fun s hs => ?_, fun s hs => ?_⟩, a6, a7, a8, a9⟩
  · rw [zs_nq (by omega)]; exact b6 s hs
  · rw [zs_nq (by omega)]; exact b7 s hs
theorem zRH_sr {V W Pn E K Rd : Nat} {C gi gi' : zm_I} (h : zRH V W Pn E K Rd C gi) (hl : rL0 gi gi' 4) : zSR 27 W Pn E K C gi' := by
  have e := va_up_id hl.1
  rw [← e]
  refine h.2.1 _ (fun s a b hs ha hb => ?_)
  rw [hl.2 s a b hs ha hb, h.2.2.2.2.1.2.2.2.2.2.2 s hs]
theorem ct_rWay (g : zm_G) (gi : zm_I) (gl : zm_J) (r : Nat) (C : zm_I) {V Rd : Nat} (hH : zRdH V Rd C gi) (a b c : Int32)  : zC_i g yX11_way mX11_way 1 [.ref 87, .int a, .int b, .int c] zSH gi gl (zRT r) (fun z gi' gl' gr' => ((zin V a ∧ zin V b ∧ (nI 0 ≤ c ∧ c ≤ nI 3)) ∧ z = fFew C (zi a) (zi b) (zi c) ∧ zXh gi gi' ∧ gl' = gl ∧ gr' = zRT r) ∨ (¬ ((zin V a ∧ zin V b ∧ (nI 0 ≤ c ∧ c ≤ nI 3))) ∧ z = -1 ∧ zXh gi gi' ∧ gl' = gl ∧ gr' = zRT r)) := by
  obtain ⟨hV, hV8, hR, hRd, hw, hT, hC⟩ := hH
  refine zC_i_of [some (.ref 87), some (.int a), some (.int b), some (.int c), none] (by decide) rfl rfl (Nat.le_of_ble_eq_true rfl) (fun x => ?_)
  refine zA_aload_0 dX11_way_0 ?_
  refine zA_iconst (nI 0) dX11_way_1 ic_0 ?_
  refine zS_putI sh_87 fX11_163 dX11_way_2 rfl rfl ?_
  refine zA_aload_0 dX11_way_5 ?_
  refine zA_iload_1 dX11_way_6 ?_
  refine zA_cVi (ct_risVillage g (zs gi 87 2 (nI 0)) gl r hV (by omega) a) calX11_isVillage stX11_isVillage lX11_176 dX11_way_7 (by decide) (by simp [Value.category]) rfl (Nat.le_refl _) (Nat.le_refl _) sh_87 rfl (fun zz gi' gl' gr' ⟨hz, q1, q2, q3⟩ => ?_)
  rw [hz, q1, q2, q3]
  clear hz q1 q2 q3
  refine zA_if_eqB 30 dX11_way_10 (by decide) (fun g0 => ?_) (fun g0 => ?_)
  · refine zA_iconst (-1) dX11_way_30 ic_m1 ?_
    exact zB_iret rfl dX11_way_31 (Or.inr ⟨fun q => g0 q.1, rfl, zXh_thr _ _, rfl, rfl⟩)
  · refine zA_aload_0 dX11_way_13 ?_
    refine zA_iload_2 dX11_way_14 ?_
    refine zA_cVi (ct_risVillage g (zs gi 87 2 (nI 0)) gl r hV (by omega) b) calX11_isVillage stX11_isVillage lX11_176 dX11_way_15 (by decide) (by simp [Value.category]) rfl (Nat.le_refl _) (Nat.le_refl _) sh_87 rfl (fun zz gi' gl' gr' ⟨hz, q1, q2, q3⟩ => ?_)
    rw [hz, q1, q2, q3]
    clear hz q1 q2 q3
    refine zA_if_eqB 30 dX11_way_18 (by decide) (fun g1 => ?_) (fun g1 => ?_)
    · refine zA_iconst (-1) dX11_way_30 ic_m1 ?_
      exact zB_iret rfl dX11_way_31 (Or.inr ⟨fun q => g1 q.2.1, rfl, zXh_thr _ _, rfl, rfl⟩)
    · refine zA_iload_3 dX11_way_21 ?_
      refine zA_iconst (nI 0) dX11_way_22 ic_0 ?_
      refine zA_iconst (nI 3) dX11_way_23 ic_3 ?_
      refine zA_cSi (ct_rIsIn g _ _ _ c ((nI 0)) ((nI 3))) calX11_isIn stX11_isIn lX11_172 dX11_way_24 (by decide) (by simp [Value.category]) rfl (Nat.le_refl _) (Nat.le_refl _) (fun zz gi' gl' gr' ⟨hz, q1, q2, q3⟩ => ?_)
      rw [hz, q1, q2, q3]
      clear hz q1 q2 q3
      refine zA_if_neB 32 dX11_way_27 (by decide) (fun g2 => ?_) (fun g2 => ?_)
      · obtain ⟨v, hv, rfl⟩ := zin_nat g0 (by omega)
        obtain ⟨k, hk, rfl⟩ := zin_nat g1 (by omega)
        obtain ⟨s, hs, rfl⟩ := zwi_nat g2 (by omega)
        refine zA_aload_0 dX11_way_32 ?_
        refine zA_cVv (ct_rLay g (zs gi 87 2 (nI 0)) gl r hV hV8 hR hRd hw (fun s hs => by rw [zs_nq (by omega)]; exact hT s hs)) calX11_lay stX11_lay lX11_199 dX11_way_33 (by decide) (by simp [Value.category]) rfl (Nat.le_refl _) (Nat.le_refl _) sh_87 rfl (fun X1 gl1 gr1 ⟨hL, e2, e3⟩ => ?_)
        rw [e2, e3]
        clear e2 e3
        have hx : X1 105 (64 * s + 8 * v + k) = C (14 + s) (v * 8 + k) := by rw [hL.2 s v k (by omega) (by omega) (by omega), zs_nq (by omega), hC s (by omega)]
        obtain ⟨f1, f2⟩ := fFew_far (C := C) (a := v) (b := k) (s := s) (by omega) (by omega) (by rw [← hC s (by omega)]; exact (hT s (by omega)).1)
        have hxh : zXh gi X1 := zXh_tr (zXh_thr gi (nI 0)) (zXh_lay hL.1)
        refine zA_aload_0 dX11_way_36 ?_
        refine zA_getR sh_87 fX11_62 dX11_way_37 rfl (rt_87_27 _) ?_
        refine zA_bipush (nI 64) dX11_way_40 bc_64 ?_
        refine zA_iload_3 dX11_way_42 ?_
        refine zA_imulN dX11_way_43 ?_
        refine zA_bipush (nI 8) dX11_way_44 bc_8 ?_
        refine zA_iload_1 dX11_way_46 ?_
        refine zA_imulN dX11_way_47 ?_
        refine zA_iaddN dX11_way_48 ?_
        refine zA_iload_2 dX11_way_49 ?_
        refine zA_iaddN dX11_way_50 ?_
        refine zA_iald (v := (C (14 + s) (v * 8 + k))) (((64 * s) + (8 * v)) + k) sh_105 dX11_way_51 rfl (by omega) (by decide) hx ?_
        refine zA_istore_4 dX11_way_52 rfl ?_
        refine zA_iload_4 dX11_way_54 ?_
        refine zA_ldc kX11_198 dX11_way_56 ?_
        refine zA_topi (b := nI 1000000) (by decide) ?_
        refine zA_icmp_ne 65 dX11_way_58 (by decide) (fun q => ?_) (fun q => ?_)
        · refine zA_iload_4 dX11_way_65 ?_
          exact zB_iret rfl dX11_way_67 (Or.inl ⟨⟨g0, g1, g2⟩, by rw [zi_nI (by omega), zi_nI (by omega), zi_nI (by omega)]; exact (f2 q).1.symm, hxh, rfl, rfl⟩)
        · refine zA_iconst (-1) dX11_way_61 ic_m1 ?_
          refine zA_goto 67 dX11_way_62 (by decide) ?_
          exact zB_iret rfl dX11_way_67 (Or.inl ⟨⟨g0, g1, g2⟩, by rw [zi_nI (by omega), zi_nI (by omega), zi_nI (by omega)]; exact (f1 q).symm, hxh, rfl, rfl⟩)
      · refine zA_iconst (-1) dX11_way_30 ic_m1 ?_
        exact zB_iret rfl dX11_way_31 (Or.inr ⟨fun q => g2 q.2.2, rfl, zXh_thr _ _, rfl, rfl⟩)
theorem ct_rShown (g : zm_G) (gi : zm_I) (gl : zm_J) (r : Nat) (C : zm_I) (cl : zm_J) {V W Pn E K Rd : Nat} (hH : zRH V W Pn E K Rd C gi) (a b c : Int32)  : zC_i g yX11_shown mX11_shown 7 [.ref 87, .int a, .int b, .int c] zSH gi gl (zRT r) (fun z gi' gl' gr' => (((nI 0 ≤ a ∧ a ≤ nI E - nI 1) ∧ (nI 0 ≤ b ∧ b ≤ nI 255) ∧ (nI 0 ≤ c ∧ c ≤ nI 6)) ∧ z = (fGo 27 b W Pn E K (C, cl)).1 (59 + zi c) (zi a) ∧ zXh gi gi' ∧ (∀ q, q ≠ 121 → gl' q = gl q) ∧ gr' = zRT r) ∨ (¬ (((nI 0 ≤ a ∧ a ≤ nI E - nI 1) ∧ (nI 0 ≤ b ∧ b ≤ nI 255) ∧ (nI 0 ≤ c ∧ c ≤ nI 6))) ∧ z = -1 ∧ zXh gi gi' ∧ (∀ q, q ≠ 121 → gl' q = gl q) ∧ gr' = zRT r)) := by
  obtain ⟨hRs, hS0, hPl, hDue, ⟨hV, hV8, hR, hRd, hw, hT, hC⟩, hE, hE24, hW, hP⟩ := id hH
  have hW3 := hRs.2.1
  have hP4 := hRs.2.2.2.1
  refine zC_i_of [some (.ref 87), some (.int a), some (.int b), some (.int c)] (by decide) rfl rfl (Nat.le_of_ble_eq_true rfl) (fun x => ?_)
  have hzi : (nI 0 ≤ a ∧ a ≤ nI E - nI 1) ↔ zin E a := zin_iff (by omega) a
  refine zA_aload_0 dX11_shown_0 ?_
  refine zA_iconst (nI 0) dX11_shown_1 ic_0 ?_
  refine zS_putI sh_87 fX11_163 dX11_shown_2 rfl rfl ?_
  refine zA_iload_1 dX11_shown_5 ?_
  refine zA_if_lt 34 dX11_shown_6 (by decide) (fun g0 => ?_) (fun g0 => ?_)
  · refine zA_iconst (-1) dX11_shown_34 ic_m1 ?_
    exact zB_iret rfl dX11_shown_35 (Or.inr ⟨fun q => absurd g0 (Int32.not_lt.mpr q.1.1), rfl, zXh_thr _ _, fun _ _ => rfl, rfl⟩)
  · refine zA_iload_1 dX11_shown_9 ?_
    refine zA_aload_0 dX11_shown_10 ?_
    refine zA_getI (v := (nI E)) sh_87 fX11_202 dX11_shown_11 rfl hE ?_
    refine zA_icmp_ge 34 dX11_shown_14 (by decide) (fun g1 => ?_) (fun g1 => ?_)
    · refine zA_iconst (-1) dX11_shown_34 ic_m1 ?_
      exact zB_iret rfl dX11_shown_35 (Or.inr ⟨fun q => absurd (hzi.mp q.1).2 (Int32.not_lt.mpr g1), rfl, zXh_thr _ _, fun _ _ => rfl, rfl⟩)
    · refine zA_iload_2 dX11_shown_17 ?_
      refine zA_cSi (ct_risShut g _ _ _ b) calX11_isShut stX11_isShut lX11_413 dX11_shown_18 (by decide) (by simp [Value.category]) rfl (Nat.le_refl _) (Nat.le_refl _) (fun zz gi' gl' gr' ⟨hz, q1, q2, q3⟩ => ?_)
      rw [hz, q1, q2, q3]
      clear hz q1 q2 q3
      refine zA_if_eqB 34 dX11_shown_21 (by decide) (fun g2 => ?_) (fun g2 => ?_)
      · refine zA_iconst (-1) dX11_shown_34 ic_m1 ?_
        exact zB_iret rfl dX11_shown_35 (Or.inr ⟨fun q => g2 q.2.1, rfl, zXh_thr _ _, fun _ _ => rfl, rfl⟩)
      · refine zA_iload_3 dX11_shown_24 ?_
        refine zA_iconst (nI 0) dX11_shown_25 ic_0 ?_
        refine zA_bipush (nI 6) dX11_shown_26 bc_6 ?_
        refine zA_cSi (ct_rIsIn g _ _ _ c ((nI 0)) ((nI 6))) calX11_isIn stX11_isIn lX11_172 dX11_shown_28 (by decide) (by simp [Value.category]) rfl (Nat.le_refl _) (Nat.le_refl _) (fun zz gi' gl' gr' ⟨hz, q1, q2, q3⟩ => ?_)
        rw [hz, q1, q2, q3]
        clear hz q1 q2 q3
        refine zA_if_neB 36 dX11_shown_31 (by decide) (fun g3 => ?_) (fun g3 => ?_)
        · have g4 : zin E a := ⟨Int32.not_lt.mp g0, Int32.not_le.mp g1⟩
          clear g0 g1
          obtain ⟨e, he, rfl⟩ := zin_nat g4 (by omega)
          obtain ⟨k, hk, rfl⟩ := zwi_nat g3 (by omega)
          refine zA_aload_0 dX11_shown_36 ?_
          refine zA_cVv (ct_rLay g (zs gi 87 2 (nI 0)) gl r hV hV8 hR hRd hw (fun s hs => by rw [zs_nq (by omega)]; exact hT s hs)) calX11_lay stX11_lay lX11_199 dX11_shown_37 (by decide) (by simp [Value.category]) rfl (Nat.le_refl _) (Nat.le_refl _) sh_87 rfl (fun X1 gl1 gr1 ⟨hL, e2, e3⟩ => ?_)
          rw [e2, e3]
          clear e2 e3
          have hSX : zSR 27 W Pn E K C X1 := zRH_sr (zRH_thr hH) hL
          have x18 : X1 87 18 = nI E := by rw [hL.1 87 (by decide)]; exact hE
          refine zA_aload_0 dX11_shown_40 ?_
          refine zA_iload_2 dX11_shown_41 ?_
          refine zA_aload_0 dX11_shown_42 ?_
          refine zA_getI (v := (nI E)) sh_87 fX11_202 dX11_shown_43 rfl x18 ?_
          refine zA_cVv (ct_rRunIt g X1 gl r C cl (by decide) hRs hSX hPl hDue b) calX11_runIt stX11_runIt lX11_416 dX11_shown_46 (by decide) (by simp [Value.category]) rfl (Nat.le_refl _) (Nat.le_refl _) sh_87 rfl (fun X2 gl2 gr2 ⟨hF, hBk, hX2, hY2, e3⟩ => ?_)
          rw [e3]
          clear e3
          have hxh : zXh gi X2 := zXh_tr (zXh_thr gi (nI 0)) (zXh_tr (zXh_lay hL.1) (zXh_g hX2))
          refine zA_aload_0 dX11_shown_49 ?_
          refine zA_getR sh_87 fX11_142 dX11_shown_50 rfl (rt_87_75 _) ?_
          refine zA_bipush (nI 7) dX11_shown_53 bc_7 ?_
          refine zA_iload_1 dX11_shown_55 ?_
          refine zA_imulN dX11_shown_56 ?_
          refine zA_iload_3 dX11_shown_57 ?_
          refine zA_iaddN dX11_shown_58 ?_
          refine zA_iald (v := (X2 130 ((7 * e) + k))) ((7 * e) + k) sh_130 dX11_shown_59 rfl (by omega) (by decide) rfl ?_
          exact zB_iret rfl dX11_shown_60 (Or.inl ⟨⟨hzi.mpr g4, g2, g3⟩, by rw [zi_nI (by omega), zi_nI (by omega)]; exact hF.1 e k he (by omega), hxh, hY2, rfl⟩)
        · refine zA_iconst (-1) dX11_shown_34 ic_m1 ?_
          exact zB_iret rfl dX11_shown_35 (Or.inr ⟨fun q => g3 q.2.2, rfl, zXh_thr _ _, fun _ _ => rfl, rfl⟩)
theorem ct_rRun (g : zm_G) (gi : zm_I) (gl : zm_J) (r : Nat) (C : zm_I) (cl : zm_J) {V W Pn E K Rd : Nat} (hH : zRH V W Pn E K Rd C gi) (a b : Int32)  : zC_i g yX11_run mX11_run 7 [.ref 87, .int a, .int b] zSH gi gl (zRT r) (fun z gi' gl' gr' => (((nI 0 ≤ a ∧ a ≤ nI 255) ∧ (nI 0 ≤ b ∧ b ≤ nI 4)) ∧ z = (fGo 27 a W Pn E K (C, cl)).1 66 (zi b) ∧ zXh gi gi' ∧ (∀ q, q ≠ 121 → gl' q = gl q) ∧ gr' = zRT r) ∨ (¬ (((nI 0 ≤ a ∧ a ≤ nI 255) ∧ (nI 0 ≤ b ∧ b ≤ nI 4))) ∧ z = -2147483648 ∧ zXh gi gi' ∧ (∀ q, q ≠ 121 → gl' q = gl q) ∧ gr' = zRT r)) := by
  obtain ⟨hRs, hS0, hPl, hDue, ⟨hV, hV8, hR, hRd, hw, hT, hC⟩, hE, hE24, hW, hP⟩ := id hH
  have hW3 := hRs.2.1
  have hP4 := hRs.2.2.2.1
  refine zC_i_of [some (.ref 87), some (.int a), some (.int b)] (by decide) rfl rfl (Nat.le_of_ble_eq_true rfl) (fun x => ?_)
  refine zA_aload_0 dX11_run_0 ?_
  refine zA_iconst (nI 0) dX11_run_1 ic_0 ?_
  refine zS_putI sh_87 fX11_163 dX11_run_2 rfl rfl ?_
  refine zA_iload_1 dX11_run_5 ?_
  refine zA_cSi (ct_risShut g _ _ _ a) calX11_isShut stX11_isShut lX11_413 dX11_run_6 (by decide) (by simp [Value.category]) rfl (Nat.le_refl _) (Nat.le_refl _) (fun zz gi' gl' gr' ⟨hz, q1, q2, q3⟩ => ?_)
  rw [hz, q1, q2, q3]
  clear hz q1 q2 q3
  refine zA_if_eqB 21 dX11_run_9 (by decide) (fun g0 => ?_) (fun g0 => ?_)
  · refine zA_ldcw kX11_419 dX11_run_21 ?_
    exact zB_iret rfl dX11_run_24 (Or.inr ⟨fun q => g0 q.1, rfl, zXh_thr _ _, fun _ _ => rfl, rfl⟩)
  · refine zA_iload_2 dX11_run_12 ?_
    refine zA_iconst (nI 0) dX11_run_13 ic_0 ?_
    refine zA_iconst (nI 4) dX11_run_14 ic_4 ?_
    refine zA_cSi (ct_rIsIn g _ _ _ b ((nI 0)) ((nI 4))) calX11_isIn stX11_isIn lX11_172 dX11_run_15 (by decide) (by simp [Value.category]) rfl (Nat.le_refl _) (Nat.le_refl _) (fun zz gi' gl' gr' ⟨hz, q1, q2, q3⟩ => ?_)
    rw [hz, q1, q2, q3]
    clear hz q1 q2 q3
    refine zA_if_neB 25 dX11_run_18 (by decide) (fun g1 => ?_) (fun g1 => ?_)
    · obtain ⟨k, hk, rfl⟩ := zwi_nat g1 (by omega)
      refine zA_aload_0 dX11_run_25 ?_
      refine zA_cVv (ct_rLay g (zs gi 87 2 (nI 0)) gl r hV hV8 hR hRd hw (fun s hs => by rw [zs_nq (by omega)]; exact hT s hs)) calX11_lay stX11_lay lX11_199 dX11_run_26 (by decide) (by simp [Value.category]) rfl (Nat.le_refl _) (Nat.le_refl _) sh_87 rfl (fun X1 gl1 gr1 ⟨hL, e2, e3⟩ => ?_)
      rw [e2, e3]
      clear e2 e3
      have hSX : zSR 27 W Pn E K C X1 := zRH_sr (zRH_thr hH) hL
      have x18 : X1 87 18 = nI E := by rw [hL.1 87 (by decide)]; exact hE
      refine zA_aload_0 dX11_run_29 ?_
      refine zA_iload_1 dX11_run_30 ?_
      refine zA_aload_0 dX11_run_31 ?_
      refine zA_getI (v := (nI E)) sh_87 fX11_202 dX11_run_32 rfl x18 ?_
      refine zA_cVv (ct_rRunIt g X1 gl r C cl (by decide) hRs hSX hPl hDue a) calX11_runIt stX11_runIt lX11_416 dX11_run_35 (by decide) (by simp [Value.category]) rfl (Nat.le_refl _) (Nat.le_refl _) sh_87 rfl (fun X2 gl2 gr2 ⟨hF, hBk, hX2, hY2, e3⟩ => ?_)
      rw [e3]
      clear e3
      have hxh : zXh gi X2 := zXh_tr (zXh_thr gi (nI 0)) (zXh_tr (zXh_lay hL.1) (zXh_g hX2))
      obtain ⟨t0, t1, t2, t3, t4⟩ := hF.2.1
      rcases (show k = 0 ∨ k = 1 ∨ k = 2 ∨ k = 3 ∨ k = 4 by omega) with rfl | rfl | rfl | rfl | rfl
      · refine zA_iload_2 dX11_run_38 ?_
        refine zA_if_ne 49 dX11_run_39 (by decide) (fun hh => absurd hh (by decide)) (fun _ => ?_)
        refine zA_aload_0 dX11_run_42 ?_
        refine zA_getI (v := (X2 87 79)) sh_87 fX11_389 dX11_run_43 rfl rfl ?_
        refine zA_goto 89 dX11_run_46 (by decide) ?_
        exact zB_iret rfl dX11_run_89 (Or.inl ⟨⟨g0, g1⟩, t0, hxh, hY2, rfl⟩)
      · refine zA_iload_2 dX11_run_38 ?_
        refine zA_if_ne 49 dX11_run_39 (by decide) (fun _ => ?_) (fun hh => absurd hh (by decide))
        refine zA_iload_2 dX11_run_49 ?_
        refine zA_iconst (nI 1) dX11_run_50 ic_1 ?_
        refine zA_icmp_neN 61 dX11_run_51 (by decide) (by decide) (by decide) (fun hh => absurd hh (by decide)) (fun _ => ?_)
        refine zA_aload_0 dX11_run_54 ?_
        refine zA_getI (v := (X2 87 78)) sh_87 fX11_398 dX11_run_55 rfl rfl ?_
        refine zA_goto 89 dX11_run_58 (by decide) ?_
        exact zB_iret rfl dX11_run_89 (Or.inl ⟨⟨g0, g1⟩, t1, hxh, hY2, rfl⟩)
      · refine zA_iload_2 dX11_run_38 ?_
        refine zA_if_ne 49 dX11_run_39 (by decide) (fun _ => ?_) (fun hh => absurd hh (by decide))
        refine zA_iload_2 dX11_run_49 ?_
        refine zA_iconst (nI 1) dX11_run_50 ic_1 ?_
        refine zA_icmp_neN 61 dX11_run_51 (by decide) (by decide) (by decide) (fun _ => ?_) (fun hh => absurd hh (by decide))
        refine zA_iload_2 dX11_run_61 ?_
        refine zA_iconst (nI 2) dX11_run_62 ic_2 ?_
        refine zA_icmp_neN 73 dX11_run_63 (by decide) (by decide) (by decide) (fun hh => absurd hh (by decide)) (fun _ => ?_)
        refine zA_aload_0 dX11_run_66 ?_
        refine zA_getI (v := (X2 87 80)) sh_87 fX11_392 dX11_run_67 rfl rfl ?_
        refine zA_goto 89 dX11_run_70 (by decide) ?_
        exact zB_iret rfl dX11_run_89 (Or.inl ⟨⟨g0, g1⟩, t2, hxh, hY2, rfl⟩)
      · refine zA_iload_2 dX11_run_38 ?_
        refine zA_if_ne 49 dX11_run_39 (by decide) (fun _ => ?_) (fun hh => absurd hh (by decide))
        refine zA_iload_2 dX11_run_49 ?_
        refine zA_iconst (nI 1) dX11_run_50 ic_1 ?_
        refine zA_icmp_neN 61 dX11_run_51 (by decide) (by decide) (by decide) (fun _ => ?_) (fun hh => absurd hh (by decide))
        refine zA_iload_2 dX11_run_61 ?_
        refine zA_iconst (nI 2) dX11_run_62 ic_2 ?_
        refine zA_icmp_neN 73 dX11_run_63 (by decide) (by decide) (by decide) (fun _ => ?_) (fun hh => absurd hh (by decide))
        refine zA_iload_2 dX11_run_73 ?_
        refine zA_iconst (nI 3) dX11_run_74 ic_3 ?_
        refine zA_icmp_neN 85 dX11_run_75 (by decide) (by decide) (by decide) (fun hh => absurd hh (by decide)) (fun _ => ?_)
        refine zA_aload_0 dX11_run_78 ?_
        refine zA_getI (v := (X2 87 81)) sh_87 fX11_401 dX11_run_79 rfl rfl ?_
        refine zA_goto 89 dX11_run_82 (by decide) ?_
        exact zB_iret rfl dX11_run_89 (Or.inl ⟨⟨g0, g1⟩, t3, hxh, hY2, rfl⟩)
      · refine zA_iload_2 dX11_run_38 ?_
        refine zA_if_ne 49 dX11_run_39 (by decide) (fun _ => ?_) (fun hh => absurd hh (by decide))
        refine zA_iload_2 dX11_run_49 ?_
        refine zA_iconst (nI 1) dX11_run_50 ic_1 ?_
        refine zA_icmp_neN 61 dX11_run_51 (by decide) (by decide) (by decide) (fun _ => ?_) (fun hh => absurd hh (by decide))
        refine zA_iload_2 dX11_run_61 ?_
        refine zA_iconst (nI 2) dX11_run_62 ic_2 ?_
        refine zA_icmp_neN 73 dX11_run_63 (by decide) (by decide) (by decide) (fun _ => ?_) (fun hh => absurd hh (by decide))
        refine zA_iload_2 dX11_run_73 ?_
        refine zA_iconst (nI 3) dX11_run_74 ic_3 ?_
        refine zA_icmp_neN 85 dX11_run_75 (by decide) (by decide) (by decide) (fun _ => ?_) (fun hh => absurd hh (by decide))
        refine zA_aload_0 dX11_run_85 ?_
        refine zA_getI (v := (X2 87 82)) sh_87 fX11_395 dX11_run_86 rfl rfl ?_
        exact zB_iret rfl dX11_run_89 (Or.inl ⟨⟨g0, g1⟩, t4, hxh, hY2, rfl⟩)
    · refine zA_ldcw kX11_419 dX11_run_21 ?_
      exact zB_iret rfl dX11_run_24 (Or.inr ⟨fun q => g1 q.2, rfl, zXh_thr _ _, fun _ _ => rfl, rfl⟩)
theorem ct_rWhere (g : zm_G) (gi : zm_I) (gl : zm_J) (r : Nat) (C : zm_I) (cl : zm_J) {V W Pn E K Rd : Nat} (hH : zRH V W Pn E K Rd C gi) (a b c : Int32)  : zC_i g yX11_where mX11_where 7 [.ref 87, .int a, .int b, .int c] zSH gi gl (zRT r) (fun z gi' gl' gr' => ((zin W a ∧ (nI 0 ≤ b ∧ b ≤ nI 3) ∧ (nI 0 ≤ c ∧ c ≤ nI 255)) ∧ z = (fGo 27 c W Pn E K (C, cl)).1 68 (zi a * 4 + zi b) ∧ zXh gi gi' ∧ (∀ q, q ≠ 121 → gl' q = gl q) ∧ gr' = zRT r) ∨ (¬ ((zin W a ∧ (nI 0 ≤ b ∧ b ≤ nI 3) ∧ (nI 0 ≤ c ∧ c ≤ nI 255))) ∧ z = -1 ∧ zXh gi gi' ∧ (∀ q, q ≠ 121 → gl' q = gl q) ∧ gr' = zRT r)) := by
  obtain ⟨hRs, hS0, hPl, hDue, ⟨hV, hV8, hR, hRd, hw, hT, hC⟩, hE, hE24, hW, hP⟩ := id hH
  have hW3 := hRs.2.1
  have hP4 := hRs.2.2.2.1
  refine zC_i_of [some (.ref 87), some (.int a), some (.int b), some (.int c)] (by decide) rfl rfl (Nat.le_of_ble_eq_true rfl) (fun x => ?_)
  refine zA_aload_0 dX11_where_0 ?_
  refine zA_iconst (nI 0) dX11_where_1 ic_0 ?_
  refine zS_putI sh_87 fX11_163 dX11_where_2 rfl rfl ?_
  refine zA_aload_0 dX11_where_5 ?_
  refine zA_iload_1 dX11_where_6 ?_
  refine zA_cVi (ct_risVan g (zs gi 87 2 (nI 0)) gl r hW (by omega) a) calX11_isVan stX11_isVan lX11_189 dX11_where_7 (by decide) (by simp [Value.category]) rfl (Nat.le_refl _) (Nat.le_refl _) sh_87 rfl (fun zz gi' gl' gr' ⟨hz, q1, q2, q3⟩ => ?_)
  rw [hz, q1, q2, q3]
  clear hz q1 q2 q3
  refine zA_if_eqB 27 dX11_where_10 (by decide) (fun g0 => ?_) (fun g0 => ?_)
  · refine zA_iconst (-1) dX11_where_27 ic_m1 ?_
    exact zB_iret rfl dX11_where_28 (Or.inr ⟨fun q => g0 q.1, rfl, zXh_thr _ _, fun _ _ => rfl, rfl⟩)
  · refine zA_iload_2 dX11_where_13 ?_
    refine zA_cSi (ct_risNight g _ _ _ b) calX11_isNight stX11_isNight lX11_195 dX11_where_14 (by decide) (by simp [Value.category]) rfl (Nat.le_refl _) (Nat.le_refl _) (fun zz gi' gl' gr' ⟨hz, q1, q2, q3⟩ => ?_)
    rw [hz, q1, q2, q3]
    clear hz q1 q2 q3
    refine zA_if_eqB 27 dX11_where_17 (by decide) (fun g1 => ?_) (fun g1 => ?_)
    · refine zA_iconst (-1) dX11_where_27 ic_m1 ?_
      exact zB_iret rfl dX11_where_28 (Or.inr ⟨fun q => g1 q.2.1, rfl, zXh_thr _ _, fun _ _ => rfl, rfl⟩)
    · refine zA_iload_3 dX11_where_20 ?_
      refine zA_cSi (ct_risShut g _ _ _ c) calX11_isShut stX11_isShut lX11_413 dX11_where_21 (by decide) (by simp [Value.category]) rfl (Nat.le_refl _) (Nat.le_refl _) (fun zz gi' gl' gr' ⟨hz, q1, q2, q3⟩ => ?_)
      rw [hz, q1, q2, q3]
      clear hz q1 q2 q3
      refine zA_if_neB 29 dX11_where_24 (by decide) (fun g2 => ?_) (fun g2 => ?_)
      · obtain ⟨v, hv, rfl⟩ := zin_nat g0 (by omega)
        obtain ⟨n, hn, rfl⟩ := zwi_nat g1 (by omega)
        refine zA_aload_0 dX11_where_29 ?_
        refine zA_cVv (ct_rLay g (zs gi 87 2 (nI 0)) gl r hV hV8 hR hRd hw (fun s hs => by rw [zs_nq (by omega)]; exact hT s hs)) calX11_lay stX11_lay lX11_199 dX11_where_30 (by decide) (by simp [Value.category]) rfl (Nat.le_refl _) (Nat.le_refl _) sh_87 rfl (fun X1 gl1 gr1 ⟨hL, e2, e3⟩ => ?_)
        rw [e2, e3]
        clear e2 e3
        have hSX : zSR 27 W Pn E K C X1 := zRH_sr (zRH_thr hH) hL
        have x18 : X1 87 18 = nI E := by rw [hL.1 87 (by decide)]; exact hE
        refine zA_aload_0 dX11_where_33 ?_
        refine zA_iload_3 dX11_where_34 ?_
        refine zA_aload_0 dX11_where_35 ?_
        refine zA_getI (v := (nI E)) sh_87 fX11_202 dX11_where_36 rfl x18 ?_
        refine zA_cVv (ct_rRunIt g X1 gl r C cl (by decide) hRs hSX hPl hDue c) calX11_runIt stX11_runIt lX11_416 dX11_where_39 (by decide) (by simp [Value.category]) rfl (Nat.le_refl _) (Nat.le_refl _) sh_87 rfl (fun X2 gl2 gr2 ⟨hF, hBk, hX2, hY2, e3⟩ => ?_)
        rw [e3]
        clear e3
        have hxh : zXh gi X2 := zXh_tr (zXh_thr gi (nI 0)) (zXh_tr (zXh_lay hL.1) (zXh_g hX2))
        refine zA_aload_0 dX11_where_42 ?_
        refine zA_getR sh_87 fX11_145 dX11_where_43 rfl (rt_87_76 _) ?_
        refine zA_iconst (nI 4) dX11_where_46 ic_4 ?_
        refine zA_iload_1 dX11_where_47 ?_
        refine zA_imulN dX11_where_48 ?_
        refine zA_iload_2 dX11_where_49 ?_
        refine zA_iaddN dX11_where_50 ?_
        refine zA_iald (v := (X2 131 ((4 * v) + n))) ((4 * v) + n) sh_131 dX11_where_51 rfl (by omega) (by decide) rfl ?_
        exact zB_iret rfl dX11_where_52 (Or.inl ⟨⟨g0, g1, g2⟩, by rw [zi_nI (by omega), zi_nI (by omega)]; exact hF.2.2.1 v n hv (by omega), hxh, hY2, rfl⟩)
      · refine zA_iconst (-1) dX11_where_27 ic_m1 ?_
        exact zB_iret rfl dX11_where_28 (Or.inr ⟨fun q => g2 q.2.2, rfl, zXh_thr _ _, fun _ _ => rfl, rfl⟩)
theorem ct_rPrinted (g : zm_G) (gi : zm_I) (gl : zm_J) (r : Nat) (C : zm_I) (cl : zm_J) {V W Pn E K Rd : Nat} (hH : zRH V W Pn E K Rd C gi) (a b c : Int32)  : zC_i g yX11_printed mX11_printed 7 [.ref 87, .int a, .int b, .int c] zSH gi gl (zRT r) (fun z gi' gl' gr' => ((zin Pn a ∧ (nI 0 ≤ b ∧ b ≤ nI 255) ∧ (nI 0 ≤ c ∧ c ≤ nI 3)) ∧ z = fPrd (fGo 27 b W Pn E K (C, cl)).1 (zi a) (zi c) ∧ zXh gi gi' ∧ (∀ q, q ≠ 121 → gl' q = gl q) ∧ gr' = zRT r) ∨ (¬ ((zin Pn a ∧ (nI 0 ≤ b ∧ b ≤ nI 255) ∧ (nI 0 ≤ c ∧ c ≤ nI 3))) ∧ z = -1 ∧ zXh gi gi' ∧ (∀ q, q ≠ 121 → gl' q = gl q) ∧ gr' = zRT r)) := by
  obtain ⟨hRs, hS0, hPl, hDue, ⟨hV, hV8, hR, hRd, hw, hT, hC⟩, hE, hE24, hW, hP⟩ := id hH
  have hW3 := hRs.2.1
  have hP4 := hRs.2.2.2.1
  refine zC_i_of [some (.ref 87), some (.int a), some (.int b), some (.int c)] (by decide) rfl rfl (Nat.le_of_ble_eq_true rfl) (fun x => ?_)
  refine zA_aload_0 dX11_printed_0 ?_
  refine zA_iconst (nI 0) dX11_printed_1 ic_0 ?_
  refine zS_putI sh_87 fX11_163 dX11_printed_2 rfl rfl ?_
  refine zA_aload_0 dX11_printed_5 ?_
  refine zA_iload_1 dX11_printed_6 ?_
  refine zA_cVi (ct_risPrint g (zs gi 87 2 (nI 0)) gl r hP (by omega) a) calX11_isPrint stX11_isPrint lX11_205 dX11_printed_7 (by decide) (by simp [Value.category]) rfl (Nat.le_refl _) (Nat.le_refl _) sh_87 rfl (fun zz gi' gl' gr' ⟨hz, q1, q2, q3⟩ => ?_)
  rw [hz, q1, q2, q3]
  clear hz q1 q2 q3
  refine zA_if_eqB 29 dX11_printed_10 (by decide) (fun g0 => ?_) (fun g0 => ?_)
  · refine zA_iconst (-1) dX11_printed_29 ic_m1 ?_
    exact zB_iret rfl dX11_printed_30 (Or.inr ⟨fun q => g0 q.1, rfl, zXh_thr _ _, fun _ _ => rfl, rfl⟩)
  · refine zA_iload_2 dX11_printed_13 ?_
    refine zA_cSi (ct_risShut g _ _ _ b) calX11_isShut stX11_isShut lX11_413 dX11_printed_14 (by decide) (by simp [Value.category]) rfl (Nat.le_refl _) (Nat.le_refl _) (fun zz gi' gl' gr' ⟨hz, q1, q2, q3⟩ => ?_)
    rw [hz, q1, q2, q3]
    clear hz q1 q2 q3
    refine zA_if_eqB 29 dX11_printed_17 (by decide) (fun g1 => ?_) (fun g1 => ?_)
    · refine zA_iconst (-1) dX11_printed_29 ic_m1 ?_
      exact zB_iret rfl dX11_printed_30 (Or.inr ⟨fun q => g1 q.2.1, rfl, zXh_thr _ _, fun _ _ => rfl, rfl⟩)
    · refine zA_iload_3 dX11_printed_20 ?_
      refine zA_iconst (nI 0) dX11_printed_21 ic_0 ?_
      refine zA_iconst (nI 3) dX11_printed_22 ic_3 ?_
      refine zA_cSi (ct_rIsIn g _ _ _ c ((nI 0)) ((nI 3))) calX11_isIn stX11_isIn lX11_172 dX11_printed_23 (by decide) (by simp [Value.category]) rfl (Nat.le_refl _) (Nat.le_refl _) (fun zz gi' gl' gr' ⟨hz, q1, q2, q3⟩ => ?_)
      rw [hz, q1, q2, q3]
      clear hz q1 q2 q3
      refine zA_if_neB 31 dX11_printed_26 (by decide) (fun g2 => ?_) (fun g2 => ?_)
      · obtain ⟨p, hp, rfl⟩ := zin_nat g0 (by omega)
        obtain ⟨k, hk, rfl⟩ := zwi_nat g2 (by omega)
        have hzp : zi (nI p) = p := zi_nI (by omega)
        refine zA_aload_0 dX11_printed_31 ?_
        refine zA_cVv (ct_rLay g (zs gi 87 2 (nI 0)) gl r hV hV8 hR hRd hw (fun s hs => by rw [zs_nq (by omega)]; exact hT s hs)) calX11_lay stX11_lay lX11_199 dX11_printed_32 (by decide) (by simp [Value.category]) rfl (Nat.le_refl _) (Nat.le_refl _) sh_87 rfl (fun X1 gl1 gr1 ⟨hL, e2, e3⟩ => ?_)
        rw [e2, e3]
        clear e2 e3
        have hSX : zSR 27 W Pn E K C X1 := zRH_sr (zRH_thr hH) hL
        have x18 : X1 87 18 = nI E := by rw [hL.1 87 (by decide)]; exact hE
        refine zA_aload_0 dX11_printed_35 ?_
        refine zA_iload_2 dX11_printed_36 ?_
        refine zA_aload_0 dX11_printed_37 ?_
        refine zA_getI (v := (nI E)) sh_87 fX11_202 dX11_printed_38 rfl x18 ?_
        refine zA_cVv (ct_rRunIt g X1 gl r C cl (by decide) hRs hSX hPl hDue b) calX11_runIt stX11_runIt lX11_416 dX11_printed_41 (by decide) (by simp [Value.category]) rfl (Nat.le_refl _) (Nat.le_refl _) sh_87 rfl (fun X2 gl2 gr2 ⟨hF, hBk, hX2, hY2, e3⟩ => ?_)
        rw [e3]
        clear e3
        have hxh : zXh gi X2 := zXh_tr (zXh_thr gi (nI 0)) (zXh_tr (zXh_lay hL.1) (zXh_g hX2))
        obtain ⟨t0, t3, t1⟩ := hF.2.2.2 p hp
        rcases (show k = 0 ∨ k = 1 ∨ k = 2 ∨ k = 3 by omega) with rfl | rfl | rfl | rfl
        · refine zA_iload_3 dX11_printed_44 ?_
          refine zA_if_ne 57 dX11_printed_45 (by decide) (fun hh => absurd hh (by decide)) (fun _ => ?_)
          refine zA_aload_0 dX11_printed_48 ?_
          refine zA_getR sh_87 fX11_133 dX11_printed_49 rfl (rt_87_72 _) ?_
          refine zA_iload_1 dX11_printed_52 ?_
          refine zA_iald (v := (X2 127 p)) p sh_127 dX11_printed_53 rfl (by omega) (by decide) rfl ?_
          refine zA_goto 90 dX11_printed_54 (by decide) ?_
          exact zB_iret rfl dX11_printed_90 (Or.inl ⟨⟨g0, g1, g2⟩, by rw [hzp]; exact t0, hxh, hY2, rfl⟩)
        · refine zA_iload_3 dX11_printed_44 ?_
          refine zA_if_ne 57 dX11_printed_45 (by decide) (fun _ => ?_) (fun hh => absurd hh (by decide))
          refine zA_iload_3 dX11_printed_57 ?_
          refine zA_iconst (nI 1) dX11_printed_58 ic_1 ?_
          refine zA_icmp_neN 71 dX11_printed_59 (by decide) (by decide) (by decide) (fun hh => absurd hh (by decide)) (fun _ => ?_)
          refine zA_aload_0 dX11_printed_62 ?_
          refine zA_getR sh_87 fX11_148 dX11_printed_63 rfl (rt_87_77 _) ?_
          refine zA_iload_1 dX11_printed_66 ?_
          refine zA_iald (v := (X2 132 p)) p sh_132 dX11_printed_67 rfl (by omega) (by decide) rfl ?_
          refine zA_goto 90 dX11_printed_68 (by decide) ?_
          exact zB_iret rfl dX11_printed_90 (Or.inl ⟨⟨g0, g1, g2⟩, by rw [hzp]; exact t1, hxh, hY2, rfl⟩)
        · refine zA_iload_3 dX11_printed_44 ?_
          refine zA_if_ne 57 dX11_printed_45 (by decide) (fun _ => ?_) (fun hh => absurd hh (by decide))
          refine zA_iload_3 dX11_printed_57 ?_
          refine zA_iconst (nI 1) dX11_printed_58 ic_1 ?_
          refine zA_icmp_neN 71 dX11_printed_59 (by decide) (by decide) (by decide) (fun _ => ?_) (fun hh => absurd hh (by decide))
          refine zA_iload_3 dX11_printed_71 ?_
          refine zA_iconst (nI 2) dX11_printed_72 ic_2 ?_
          refine zA_icmp_neN 84 dX11_printed_73 (by decide) (by decide) (by decide) (fun hh => absurd hh (by decide)) (fun _ => ?_)
          refine zA_aload_0 dX11_printed_76 ?_
          refine zA_iload_1 dX11_printed_77 ?_
          obtain ⟨y1, y2⟩ := hDue p hp
          have c23 : (fGo 27 b W Pn E K (C, cl)).1 (23 + p) = C (23 + p) := fGo_ag (by decide) hRs (23 + p) (by omega)
          have x5 : X2 97 (7 * p + 5) = nI (zi (C (23 + p) 5)) := by rw [hX2.1 97 (by omega) (by decide)]; exact (hSX.2.2.2.2.2.2.1 p 5 hp (by decide)).trans y1
          refine zA_cVi (ct_rLate g X2 gl2 r (fGo 27 b W Pn E K (C, cl)).1 hp hP4 y2 x5 (by rw [c23]; exact y1) t1 (hBk p hp)) calX11_lateOf stX11_lateOf lX11_410 dX11_printed_78 (by decide) (by simp [Value.category]) rfl (Nat.le_refl _) (Nat.le_refl _) sh_87 rfl (fun zz gi' gl' gr' ⟨hz, e1, e2, e3⟩ => ?_)
          rw [hz, e1, e2, e3]
          clear hz e1 e2 e3
          refine zA_goto 90 dX11_printed_81 (by decide) ?_
          exact zB_iret rfl dX11_printed_90 (Or.inl ⟨⟨g0, g1, g2⟩, by rw [hzp]; rfl, hxh, hY2, rfl⟩)
        · refine zA_iload_3 dX11_printed_44 ?_
          refine zA_if_ne 57 dX11_printed_45 (by decide) (fun _ => ?_) (fun hh => absurd hh (by decide))
          refine zA_iload_3 dX11_printed_57 ?_
          refine zA_iconst (nI 1) dX11_printed_58 ic_1 ?_
          refine zA_icmp_neN 71 dX11_printed_59 (by decide) (by decide) (by decide) (fun _ => ?_) (fun hh => absurd hh (by decide))
          refine zA_iload_3 dX11_printed_71 ?_
          refine zA_iconst (nI 2) dX11_printed_72 ic_2 ?_
          refine zA_icmp_neN 84 dX11_printed_73 (by decide) (by decide) (by decide) (fun _ => ?_) (fun hh => absurd hh (by decide))
          refine zA_aload_0 dX11_printed_84 ?_
          refine zA_getR sh_87 fX11_136 dX11_printed_85 rfl (rt_87_73 _) ?_
          refine zA_iload_1 dX11_printed_88 ?_
          refine zA_iald (v := (X2 128 p)) p sh_128 dX11_printed_89 rfl (by omega) (by decide) rfl ?_
          exact zB_iret rfl dX11_printed_90 (Or.inl ⟨⟨g0, g1, g2⟩, by rw [hzp]; exact t3, hxh, hY2, rfl⟩)
      · refine zA_iconst (-1) dX11_printed_29 ic_m1 ?_
        exact zB_iret rfl dX11_printed_30 (Or.inr ⟨fun q => g2 q.2.2, rfl, zXh_thr _ _, fun _ _ => rfl, rfl⟩)
