/-! calls that ask -/
theorem zXe_h {X X' : zm_I} (h : zXh X X') : zXe X X' := ⟨fun a h1 h2 h3 _ => h.1 a h1 h2 h3, h.2⟩
theorem zIv_ask {gi gi' gi2 : zm_I} (hI : zIv gi) (hag : ∀ a, ¬ (56 ≤ a ∧ a ≤ 73) → gi' a = gi a) (hc8 : zC8 gi') (hx : zXe gi' gi2) : zIv gi2 := by
  obtain ⟨V, W, Pn, E, K, Rd, Ps, T, Tp, h1, h2, h3, h4, h5, h6, h7, h8, h9, h10, h11, h12, h13⟩ := id hI
  have eq : ∀ a j, ¬ (56 ≤ a ∧ a ≤ 73) ∧ (a < 122 ∨ 132 < a) ∧ a ≠ 105 ∧ a ≠ 104 ∧ (a ≠ 87 ∨ ((j < 60 ∨ 82 < j) ∧ j ≠ 2)) → gi2 a j = gi a j := fun a j h => by
    by_cases e : a = 87
    · subst e
      rw [hx.2 j (by omega) (by omega), hag 87 (by omega)]
    · rw [hx.1 a (by omega) e (by omega) (by omega), hag a (by omega)]
  exact ⟨V, W, Pn, E, K, Rd, Ps, T, Tp, zI1_cg (fun a j hR => eq a j (by unfold zR1 at hR; omega)) h1, zI2_cg (fun a j hR => eq a j (by unfold zR2 at hR; omega)) h2, zI3_cg (fun a j hR => eq a j (by unfold zR3 at hR; omega)) h3, zI4_cg (fun a j hR => eq a j (by unfold zR4 at hR; omega)) h4, zI5_cg (fun a j hR => eq a j (by unfold zR5 at hR; omega)) h5, zI6_cg (fun a j hR => eq a j (by unfold zR6 at hR; omega)) h6, zI7_cg (fun a j hR => eq a j (by unfold zR7 at hR; omega)) h7, zI8_cg (fun a j hR => eq a j (by unfold zR8 at hR; omega)) h8, zI9_cg (fun a j hR => eq a j (by unfold zR9 at hR; omega)) h9, zI10_cg (fun a j hR => eq a j (by unfold zR10 at hR; omega)) h10, zI11_cg (fun a j hR => eq a j (by unfold zR11 at hR; omega)) h11, zI12_cg (fun a j hR => eq a j (by unfold zR12 at hR; omega)) h12, zC8_eq (hx.1 59 (by omega) (by decide) (by decide) (by decide)) hc8⟩
theorem zC8_ex {W Pn E K Ps wh : Nat} {s : (zm_I × zm_J) × Int64} (h : zC8 s.1.1) : ∀ i, zC8 (fExL W Pn E K Ps wh s i).1.1
  | 0 => h
  | i + 1 => by
    have ih := zC8_ex (W := W) (Pn := Pn) (E := E) (K := K) (Ps := Ps) (wh := wh) h i
    show zC8 (fExS W Pn E K Ps wh (fExL W Pn E K Ps wh s i) i).1.1
    generalize fExL W Pn E K Ps wh s i = t at ih ⊢
    unfold fExS
    split
    · exact zC8_go ih
    · exact ih
theorem fSk1_59 (V Pn n v k : Nat) (M : zm_I) (i : Nat) : fSk1 V Pn n v k M i 59 = M 59 := by
  unfold fSk1
  rw [zit_nq (fLayS_nq (by decide) (by decide)), fCutB_nq _ _ _ (by decide) (by decide), fCho_nq (by decide)]
theorem zC8_skS {V W Pn K n v k : Nat} (P : zm_I × zm_J) (i : Nat) (h : zC8 P.1) : zC8 (fSkS V W Pn K n v k P i).1 := by
  have h1 : zC8 (fSk2 V W Pn K n v k P i).1 := by
    unfold fSk2
    exact zC8_go (P := (fSk1 V Pn n v k P.1 i, P.2)) (zC8_eq (fSk1_59 V Pn n v k P.1 i) h)
  unfold fSkS
  generalize fSk2 V W Pn K n v k P i = S at h1 ⊢
  split
  · exact zC8_eq (fKeep_nq S.1 (a := 59) (by decide) (by decide)) h1
  · exact h1
theorem zC8_seek {V W Pn E K n v : Nat} {P : zm_I × zm_J} (h : zC8 P.1) : zC8 (fSeek V W Pn E K n v P).1 := by
  unfold fSeek
  refine zC8_zs (zC8_it2 (fun P i hP => zC8_skS P i hP) (P := (fSk0 P.1 E K v, P.2)) (zC8_eq ?_ h) _) (by decide)
  show fSk0 P.1 E K v 59 = _
  unfold fSk0
  rw [fHandL_nq _ (by decide) (by decide) (by decide) (by decide), fTakeLB_nq (by decide) (by decide)]
theorem fSeek_ag {V W Pn E K n v : Nat} {P : zm_I × zm_J} (hR : zRs 27 W Pn E K P.1) (he : E ≤ 24) (hV : V ≤ 8) (hv : v < W) : zAg2 P.1 (fSeek V W Pn E K n v P).1 := by
  obtain ⟨k, k1, k2, k3, k4⟩ := fSk0_in (V := V) (v := v) hR he
  unfold fSeek
  rw [k2, zi_nI (by omega)]
  obtain ⟨E2, _, _, _, a4⟩ := zit2_sk (n := n) (k := k) (P := (fSk0 P.1 E K v, P.2)) k3 hV hv (Nat.le_refl _) (by omega) (by omega) ((V * Pn + 1) ^ n)
  exact fun a ha => (zs_nq (by omega)).trans ((a4 a ha).trans (k4 a ha))
theorem fSeek_8 (V W Pn E K n v : Nat) (P : zm_I × zm_J) : (fSeek V W Pn E K n v P).1 75 8 = nI ((V * Pn + 1) ^ n) := by
  unfold fSeek
  generalize zit2 (fSkS V W Pn K n v (zi (fSk0 P.1 E K v 76 8))) (fSk0 P.1 E K v, P.2) ((V * Pn + 1) ^ n) = Z
  exact zs_eq Z.1 75 8 (nI ((V * Pn + 1) ^ n))
theorem pr_shown (g : zm_G) (gi : zm_I) (gl : zm_J) (r : Nat) (hI : zIv gi) (a b c : Int32) : zPr g yX10_shown mX10_shown 6 yX11_shown mX11_shown 7 [.int a, .int b, .int c] gi gl r := by
  obtain ⟨V, W, Pn, E, K, Rd, Ps, T, Tp, h1, h2, h3, h4, h5, h6, h7, h8, h9, h10, h11, h12, h13⟩ := id hI
  have hH := zIv_RH h1 h2 h3 h4 h5 h6 h7 h8
  refine ⟨_, ct_shown g gi gl r hH.1 h6.2.1 a b c, ?_⟩
  have hag : zAg gi (fGo 27 b W Pn E K (gi, gl)).1 := fGo_ag (P := (gi, gl)) (Or.inl rfl) hH.1
  have h8' : zC8 (fGo 27 b W Pn E K (gi, gl)).1 := zC8_go (P := (gi, gl)) h13
  rintro z gi' gl' gr' (⟨ok, hz, e1, e2, e3⟩ | ⟨no, hz, e1, e2, e3⟩)
  · rw [← e1] at hag h8'
    refine ⟨27, e3, _, ct_rShown g gi' gl' 27 gi gl (V := V) (Rd := Rd) (zRH_cg (fun a ha => hag a (by omega)) hH) a b c, ?_⟩
    rintro z2 gi2 gl2 gr2 (⟨ok2, hz2, f1, f2, f3⟩ | ⟨no2, hz2, f1, f2, f3⟩)
    · exact ⟨hz2.trans hz.symm, zIv_ask hI (fun a ha => hag a (by omega)) h8' (zXe_h f1), 27, f3⟩
    · exact absurd ok no2
  · clear hag h8'
    subst e1 e2
    refine ⟨r, e3, _, ct_rShown g gi' gl' r gi' gl' hH a b c, ?_⟩
    rintro z2 gi2 gl2 gr2 (⟨ok2, hz2, f1, f2, f3⟩ | ⟨no2, hz2, f1, f2, f3⟩)
    · exact absurd ok2 no
    · exact ⟨hz2.trans hz.symm, zIv_ask hI (fun _ _ => rfl) h13 (zXe_h f1), r, f3⟩
theorem pr_run (g : zm_G) (gi : zm_I) (gl : zm_J) (r : Nat) (hI : zIv gi) (a b : Int32) : zPr g yX10_run mX10_run 6 yX11_run mX11_run 7 [.int a, .int b] gi gl r := by
  obtain ⟨V, W, Pn, E, K, Rd, Ps, T, Tp, h1, h2, h3, h4, h5, h6, h7, h8, h9, h10, h11, h12, h13⟩ := id hI
  have hH := zIv_RH h1 h2 h3 h4 h5 h6 h7 h8
  refine ⟨_, ct_run g gi gl r hH.1 h6.2.1 a b, ?_⟩
  have hag : zAg gi (fGo 27 a W Pn E K (gi, gl)).1 := fGo_ag (P := (gi, gl)) (Or.inl rfl) hH.1
  have h8' : zC8 (fGo 27 a W Pn E K (gi, gl)).1 := zC8_go (P := (gi, gl)) h13
  rintro z gi' gl' gr' (⟨ok, hz, e1, e2, e3⟩ | ⟨no, hz, e1, e2, e3⟩)
  · rw [← e1] at hag h8'
    refine ⟨27, e3, _, ct_rRun g gi' gl' 27 gi gl (V := V) (Rd := Rd) (zRH_cg (fun a ha => hag a (by omega)) hH) a b, ?_⟩
    rintro z2 gi2 gl2 gr2 (⟨ok2, hz2, f1, f2, f3⟩ | ⟨no2, hz2, f1, f2, f3⟩)
    · exact ⟨hz2.trans hz.symm, zIv_ask hI (fun a ha => hag a (by omega)) h8' (zXe_h f1), 27, f3⟩
    · exact absurd ok no2
  · clear hag h8'
    subst e1 e2
    refine ⟨r, e3, _, ct_rRun g gi' gl' r gi' gl' hH a b, ?_⟩
    rintro z2 gi2 gl2 gr2 (⟨ok2, hz2, f1, f2, f3⟩ | ⟨no2, hz2, f1, f2, f3⟩)
    · exact absurd ok2 no
    · exact ⟨hz2.trans hz.symm, zIv_ask hI (fun _ _ => rfl) h13 (zXe_h f1), r, f3⟩
theorem pr_where (g : zm_G) (gi : zm_I) (gl : zm_J) (r : Nat) (hI : zIv gi) (a b c : Int32) : zPr g yX10_where mX10_where 6 yX11_where mX11_where 7 [.int a, .int b, .int c] gi gl r := by
  obtain ⟨V, W, Pn, E, K, Rd, Ps, T, Tp, h1, h2, h3, h4, h5, h6, h7, h8, h9, h10, h11, h12, h13⟩ := id hI
  have hH := zIv_RH h1 h2 h3 h4 h5 h6 h7 h8
  refine ⟨_, ct_where g gi gl r hH.1 h6.2.1 a b c, ?_⟩
  have hag : zAg gi (fGo 27 c W Pn E K (gi, gl)).1 := fGo_ag (P := (gi, gl)) (Or.inl rfl) hH.1
  have h8' : zC8 (fGo 27 c W Pn E K (gi, gl)).1 := zC8_go (P := (gi, gl)) h13
  rintro z gi' gl' gr' (⟨ok, hz, e1, e2, e3⟩ | ⟨no, hz, e1, e2, e3⟩)
  · rw [← e1] at hag h8'
    refine ⟨27, e3, _, ct_rWhere g gi' gl' 27 gi gl (V := V) (Rd := Rd) (zRH_cg (fun a ha => hag a (by omega)) hH) a b c, ?_⟩
    rintro z2 gi2 gl2 gr2 (⟨ok2, hz2, f1, f2, f3⟩ | ⟨no2, hz2, f1, f2, f3⟩)
    · exact ⟨hz2.trans hz.symm, zIv_ask hI (fun a ha => hag a (by omega)) h8' (zXe_h f1), 27, f3⟩
    · exact absurd ok no2
  · clear hag h8'
    subst e1 e2
    refine ⟨r, e3, _, ct_rWhere g gi' gl' r gi' gl' hH a b c, ?_⟩
    rintro z2 gi2 gl2 gr2 (⟨ok2, hz2, f1, f2, f3⟩ | ⟨no2, hz2, f1, f2, f3⟩)
    · exact absurd ok2 no
    · exact ⟨hz2.trans hz.symm, zIv_ask hI (fun _ _ => rfl) h13 (zXe_h f1), r, f3⟩
theorem pr_printed (g : zm_G) (gi : zm_I) (gl : zm_J) (r : Nat) (hI : zIv gi) (a b c : Int32) : zPr g yX10_printed mX10_printed 6 yX11_printed mX11_printed 7 [.int a, .int b, .int c] gi gl r := by
  obtain ⟨V, W, Pn, E, K, Rd, Ps, T, Tp, h1, h2, h3, h4, h5, h6, h7, h8, h9, h10, h11, h12, h13⟩ := id hI
  have hH := zIv_RH h1 h2 h3 h4 h5 h6 h7 h8
  refine ⟨_, ct_printed g gi gl r hH.1 h6.2.1 a b c, ?_⟩
  have hag : zAg gi (fGo 27 b W Pn E K (gi, gl)).1 := fGo_ag (P := (gi, gl)) (Or.inl rfl) hH.1
  have h8' : zC8 (fGo 27 b W Pn E K (gi, gl)).1 := zC8_go (P := (gi, gl)) h13
  rintro z gi' gl' gr' (⟨ok, hz, e1, e2, e3⟩ | ⟨no, hz, e1, e2, e3⟩)
  · rw [← e1] at hag h8'
    refine ⟨27, e3, _, ct_rPrinted g gi' gl' 27 gi gl (V := V) (Rd := Rd) (zRH_cg (fun a ha => hag a (by omega)) hH) a b c, ?_⟩
    rintro z2 gi2 gl2 gr2 (⟨ok2, hz2, f1, f2, f3⟩ | ⟨no2, hz2, f1, f2, f3⟩)
    · exact ⟨hz2.trans hz.symm, zIv_ask hI (fun a ha => hag a (by omega)) h8' (zXe_h f1), 27, f3⟩
    · exact absurd ok no2
  · clear hag h8'
    subst e1 e2
    refine ⟨r, e3, _, ct_rPrinted g gi' gl' r gi' gl' hH a b c, ?_⟩
    rintro z2 gi2 gl2 gr2 (⟨ok2, hz2, f1, f2, f3⟩ | ⟨no2, hz2, f1, f2, f3⟩)
    · exact absurd ok2 no
    · exact ⟨hz2.trans hz.symm, zIv_ask hI (fun _ _ => rfl) h13 (zXe_h f1), r, f3⟩
theorem pr_way (g : zm_G) (gi : zm_I) (gl : zm_J) (r : Nat) (hI : zIv gi) (a b c : Int32) : zPr g yX10_way mX10_way 2 yX11_way mX11_way 1 [.int a, .int b, .int c] gi gl r := by
  obtain ⟨V, W, Pn, E, K, Rd, Ps, T, Tp, h1, h2, h3, h4, h5, h6, h7, h8, h9, h10, h11, h12, h13⟩ := id hI
  have hH := zIv_RH h1 h2 h3 h4 h5 h6 h7 h8
  refine ⟨_, ct_way g gi gl r h1.1 h1.2.1 a b c, ?_⟩
  rintro z gi' gl' gr' (⟨ok, hz, e1, e2, e3⟩ | ⟨no, hz, e1, e2, e3⟩)
  · subst e1 e2
    refine ⟨r, e3, _, ct_rWay g gi' gl' r gi' hH.2.2.2.2.1 a b c, ?_⟩
    rintro z2 gi2 gl2 gr2 (⟨ok2, hz2, f1, f2, f3⟩ | ⟨no2, hz2, f1, f2, f3⟩)
    · exact ⟨hz2.trans hz.symm, zIv_ask hI (fun _ _ => rfl) h13 (zXe_h f1), r, f3⟩
    · exact absurd ok no2
  · subst e1 e2
    refine ⟨r, e3, _, ct_rWay g gi' gl' r gi' hH.2.2.2.2.1 a b c, ?_⟩
    rintro z2 gi2 gl2 gr2 (⟨ok2, hz2, f1, f2, f3⟩ | ⟨no2, hz2, f1, f2, f3⟩)
    · exact absurd ok2 no
    · exact ⟨hz2.trans hz.symm, zIv_ask hI (fun _ _ => rfl) h13 (zXe_h f1), r, f3⟩
theorem pr_ends (g : zm_G) (gi : zm_I) (gl : zm_J) (r : Nat) (hI : zIv gi) (a b : Int32) : zPr g yX10_ends mX10_ends 6 yX11_ends mX11_ends 7 [.int a, .int b] gi gl r := by
  obtain ⟨V, W, Pn, E, K, Rd, Ps, T, Tp, h1, h2, h3, h4, h5, h6, h7, h8, h9, h10, h11, h12, h13⟩ := id hI
  have hH := zIv_RH h1 h2 h3 h4 h5 h6 h7 h8
  refine ⟨_, ct_ends g gi gl r h9.1 h9.2.1 (fun i hi q => ?_) hH.1 h6.2.1 a b, ?_⟩
  · rcases h9.2.2.2 i hi with ⟨_, _, _, _, q5, q6, _⟩ | ⟨j, hj, q1, _⟩
    · exact ⟨q5, q6⟩
    · rw [q1] at q
      exact absurd q (nI_nm1 (by have := h9.2.1; omega))
  have hs : ∀ a2, a2 ≠ 56 → fSettle gi (zi a) a2 = gi a2 := fun a2 ha => fSettle_nq gi (zi a) ha
  have hR2 := zRs_56 (q := 27) (by decide) hs hH.1
  have hag : ∀ a2, ¬ (56 ≤ a2 ∧ a2 ≤ 73) → (fGo 27 (nI 0) W Pn E K (fSettle gi (zi a), gl)).1 a2 = gi a2 := fun a2 ha => (fGo_ag (P := (fSettle gi (zi a), gl)) (Or.inl rfl) hR2 a2 (by omega)).trans (hs a2 (by omega))
  have h8' : zC8 (fGo 27 (nI 0) W Pn E K (fSettle gi (zi a), gl)).1 := zC8_go (P := (fSettle gi (zi a), gl)) (zC8_eq (hs 59 (by decide)) h13)
  rintro z gi' gl' gr' (⟨ok, hz, e1, e2, e3⟩ | ⟨no, hz, e1, e2, e3⟩)
  · rw [← e1] at hag h8'
    refine ⟨27, e3, _, ct_rEnds g gi' gl' 27 gi gl (V := V) (Rd := Rd) (T := T) (zRH_cg (fun a ha => hag a (by omega)) hH) (by rw [hag 87 (by omega)]; exact h9.2.2.1) h9.2.1 (fun i hi => by rw [hag 101 (by omega), hag 102 (by omega), hag 103 (by omega)]; exact h9.2.2.2 i hi) h13 a b, ?_⟩
    rintro z2 gi2 gl2 gr2 (⟨ok2, hz2, f1, f2, f3⟩ | ⟨no2, hz2, f1, f2, f3⟩)
    · exact ⟨hz2.trans hz.symm, zIv_ask hI hag h8' f1, 27, f3⟩
    · exact absurd ok no2
  · clear hag h8'
    subst e1 e2
    refine ⟨r, e3, _, ct_rEnds g gi' gl' r gi' gl' hH h9.2.2.1 h9.2.1 h9.2.2.2 h13 a b, ?_⟩
    rintro z2 gi2 gl2 gr2 (⟨ok2, hz2, f1, f2, f3⟩ | ⟨no2, hz2, f1, f2, f3⟩)
    · exact absurd ok2 no
    · exact ⟨hz2.trans hz.symm, zIv_ask hI (fun _ _ => rfl) h13 f1, r, f3⟩
theorem pr_expected (g : zm_G) (gi : zm_I) (gl : zm_J) (r : Nat) (hI : zIv gi) (a : Int32) : zPrL g yX10_expected mX10_expected 6 yX11_expected mX11_expected 7 [.int a] gi gl r := by
  obtain ⟨V, W, Pn, E, K, Rd, Ps, T, Tp, h1, h2, h3, h4, h5, h6, h7, h8, h9, h10, h11, h12, h13⟩ := id hI
  have hH := zIv_RH h1 h2 h3 h4 h5 h6 h7 h8
  obtain ⟨_, _, _, _, _, p6, p7, p8, p9⟩ := id h2
  refine ⟨_, ct_expected g gi gl r p6 p7 hH.1 h6.2.1 a, ?_⟩
  have hag : zAg gi (fExL W Pn E K Ps (zi a) ((gi, gl), 0) 256).1.1 := (fExL_in (s := ((gi, gl), 0)) hH.1 256).2
  have h8' : zC8 (fExL W Pn E K Ps (zi a) ((gi, gl), 0) 256).1.1 := zC8_ex (s := ((gi, gl), 0)) h13 256
  rintro z gi' gl' gr' (⟨o1, o2, hz, e1, e2, e3⟩ | ⟨o1, o2, hz, e1, e2, r', e3⟩ | ⟨o1, hz, e1, e2, e3⟩)
  · clear hag h8'
    subst e1 e2
    refine ⟨r, e3, _, ct_rExpected g gi' gl' r gi' gl' hH p8 p6 p7 p9 a, ?_⟩
    rintro z2 gi2 gl2 gr2 (⟨c1, c2, hz2, f1, f2, f3⟩ | ⟨c1, c2, hz2, f1, f2, f3⟩ | ⟨c1, hz2, f1, f2, f3⟩)
    · exact ⟨hz2.trans hz.symm, zIv_ask hI (fun _ _ => rfl) h13 (zXe_h f1), r, f3⟩
    · exact absurd o2 c2
    · exact absurd o1 c1
  · rw [← e1] at hag h8'
    refine ⟨r', e3, _, ct_rExpected g gi' gl' r' gi gl (V := V) (Rd := Rd) (Ps := Ps) (zRH_cg (fun a ha => hag a (by omega)) hH) (by rw [hag 87 (by omega)]; exact p8) p6 p7 (fun k hk => by rw [hag 94 (by omega)]; exact p9 k hk) a, ?_⟩
    rintro z2 gi2 gl2 gr2 (⟨c1, c2, hz2, f1, f2, f3⟩ | ⟨c1, c2, hz2, f1, f2, f3⟩ | ⟨c1, hz2, f1, f2, f3⟩)
    · exact absurd c2 o2
    · exact ⟨hz2.trans hz.symm, zIv_ask hI (fun a ha => hag a (by omega)) h8' (zXe_h f1), r', f3⟩
    · exact absurd o1 c1
  · clear hag h8'
    subst e1 e2
    refine ⟨r, e3, _, ct_rExpected g gi' gl' r gi' gl' hH p8 p6 p7 p9 a, ?_⟩
    rintro z2 gi2 gl2 gr2 (⟨c1, c2, hz2, f1, f2, f3⟩ | ⟨c1, c2, hz2, f1, f2, f3⟩ | ⟨c1, hz2, f1, f2, f3⟩)
    · exact absurd c1 o1
    · exact absurd c1 o1
    · exact ⟨hz2.trans hz.symm, zIv_ask hI (fun _ _ => rfl) h13 (zXe_h f1), r, f3⟩
theorem pr_round (g : zm_G) (gi : zm_I) (gl : zm_J) (r : Nat) (hI : zIv gi) (a b : Int32) : zPr g yX10_round mX10_round 7 yX11_round mX11_round 7 [.int a, .int b] gi gl r := by
  obtain ⟨V, W, Pn, E, K, Rd, Ps, T, Tp, h1, h2, h3, h4, h5, h6, h7, h8, h9, h10, h11, h12, h13⟩ := id hI
  have hH := zIv_RH h1 h2 h3 h4 h5 h6 h7 h8
  have hSe : zSe gi := h1.2.2.2.2
  refine ⟨_, ct_round g gi gl r h1.1 h1.2.1 hH.1 h6.2.1 a b, ?_⟩
  rintro z gi' gl' gr' (⟨ok, hz, e1, e2, e3⟩ | ⟨no, hz, e1, e2, e3⟩)
  · have hv : zi a < W := by
      obtain ⟨k, hk, rfl⟩ := zin_nat ok.1 (by have := h3.2.1; omega)
      rw [zi_nI (by have := h3.2.1; omega)]; exact hk
    have hag : zAg2 gi gi' := by
      rw [e1]
      exact fSeek_ag (P := (gi, gl)) hH.1 h6.2.1 h1.2.1 hv
    have h8' : zC8 gi' := by
      rw [e1]
      exact zC8_seek (P := (gi, gl)) h13
    have h758 : gi' 75 8 = nI ((V * Pn + 1) ^ zi b) := by
      rw [e1]
      exact fSeek_8 V W Pn E K (zi b) (zi a) (gi, gl)
    have hpos : 0 < (V * Pn + 1) ^ zi b := Nat.pow_pos (by omega)
    have h12' := ok.2.2
    refine ⟨76, e3, _, ct_rRound g gi' gl' 76 gi gl (V := V) (Rd := Rd) (zRH_cg (fun a ha => hag a (by omega)) hH) hSe a b, ?_⟩
    rintro z2 gi2 gl2 gr2 (⟨ok2, hz2, y1, y2, y3, y4, f1, f2, f3⟩ | ⟨no2, hz2, f1, f2, f3⟩)
    · refine ⟨hz2.trans hz.symm, ?_, 76, f3⟩
      rw [← e1] at y2 y3 y4
      clear hz hz2
      have eq : ∀ a j, (a < 57 ∨ 87 ≤ a) ∧ (a < 122 ∨ 134 < a) ∧ a ≠ 105 ∧ (a ≠ 99 ∨ j < 108) ∧ (a ≠ 87 ∨ ((j < 60 ∨ 85 < j) ∧ j ≠ 2)) → gi2 a j = gi a j := fun a j h => by
        by_cases e : a = 87
        · subst e
          rw [f1.2.1 j (by omega) (by omega), hag 87 (by omega)]
        · by_cases e9 : a = 99
          · subst e9
            rw [f1.2.2 j (by omega), hag 99 (by omega)]
          · rw [f1.1 a (by omega) e (by omega) e9, hag a (by omega)]
      have k75 : gi2 75 = gi' 75 := f1.1 75 (by omega) (by decide) (by decide) (by decide)
      have k86 : gi2 86 = gi' 86 := f1.1 86 (by omega) (by decide) (by decide) (by decide)
      refine ⟨V, W, Pn, E, K, Rd, Ps, T, Tp, zI1_cg (fun a j hR => eq a j (by unfold zR1 at hR; omega)) h1, zI2_cg (fun a j hR => eq a j (by unfold zR2 at hR; omega)) h2, zI3_cg (fun a j hR => eq a j (by unfold zR3 at hR; omega)) h3, zI4_cg (fun a j hR => eq a j (by unfold zR4 at hR; omega)) h4, zI5_cg (fun a j hR => eq a j (by unfold zR5 at hR; omega)) h5, zI6_cg (fun a j hR => eq a j (by unfold zR6 at hR; omega)) h6, zI7_cg (fun a j hR => eq a j (by unfold zR7 at hR; omega)) h7, zI8_cg (fun a j hR => eq a j (by unfold zR8 at hR; omega)) h8, zI9_cg (fun a j hR => eq a j (by unfold zR9 at hR; omega)) h9, zI10_cg (fun a j hR => eq a j (by unfold zR10 at hR; omega)) h10, zI11_cg (fun a j hR => eq a j (by unfold zR11 at hR; omega)) h11, Or.inr ⟨?_, ?_, ?_, ?_, fun j hj => ?_⟩, zC8_eq (f1.1 59 (by omega) (by decide) (by decide) (by decide)) h8'⟩
      · rw [k75, h758]
        generalize (V * Pn + 1) ^ zi b = y at hpos h12' ⊢
        exact nI_q (b := 0) (by omega) (by decide) (by omega)
      · rw [y1]; decide
      · rw [y2, k75]
      · rw [y3, k75]
      · rw [y4 j hj, k86]
    · exact absurd ok no2
  · subst e1 e2
    refine ⟨r, e3, _, ct_rRound g gi' gl' r gi' gl' hH hSe a b, ?_⟩
    rintro z2 gi2 gl2 gr2 (⟨ok2, hz2, y1, y2, y3, y4, f1, f2, f3⟩ | ⟨no2, hz2, f1, f2, f3⟩)
    · exact absurd ok2 no
    · exact ⟨hz2.trans hz.symm, zIv_ask hI (fun _ _ => rfl) h13 (zXe_h f1), r, f3⟩
