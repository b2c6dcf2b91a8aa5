theorem ct_lineWord (g : zm_G) (gi : zm_I) (gl : zm_J) (r : Nat) {b e : Nat} (hb : gi 50 2 = nI b) (he : gi 50 3 = nI e) (hbe : b ≤ e) (he5 : e ≤ 500)  : zC_i g yX9_lineWord mX9_lineWord 6 [.ref 50] zSH gi gl (zRT r) (fun z gi' gl' gr' => z = (if gi 50 4 = nI 2 then fWi gi 0 b e else -1) ∧ gi' = gi ∧ gl' = gl ∧ gr' = zRT r) := by
  refine zC_i_of [some (.ref 50)] (by decide) rfl rfl (Nat.le_of_ble_eq_true rfl) (fun x => ?_)
  refine zA_aload_0 dX9_lineWord_0 ?_
  refine zA_getI (v := (gi 50 4)) sh_50 fX9_36 dX9_lineWord_1 rfl rfl ?_
  refine zA_iconst (nI 2) dX9_lineWord_4 ic_2 ?_
  refine zA_icmp_ne 17 dX9_lineWord_5 (by decide) (fun h => ?_) (fun h => ?_)
  · refine zA_iconst (-1) dX9_lineWord_17 ic_m1 ?_
    exact zB_iret rfl dX9_lineWord_18 (⟨(if_neg h).symm, rfl, rfl, rfl⟩)
  · refine zA_aload_0 dX9_lineWord_8 ?_
    refine zA_ldcS (i := 0) (by decide) rfl rfl dX9_lineWord_9 ?_
    refine zA_cVi (ct_wordIn g gi gl r (q := 0) (by decide) hb he hbe he5) calX9_wordIn stX9_wordIn lX9_62 dX9_lineWord_11 (by decide) (by simp [Value.category]) rfl (Nat.le_refl _) (Nat.le_refl _) sh_50 rfl (fun zz gi' gl' gr' ⟨hz, e1, e2, e3⟩ => ?_)
    rw [hz, e1, e2, e3]
    clear hz e1 e2 e3
    refine zA_goto 18 dX9_lineWord_14 (by decide) ?_
    exact zB_iret rfl dX9_lineWord_18 (⟨(if_pos h).symm, rfl, rfl, rfl⟩)
def fRapW (gi : zm_I) (kw nm : Int32) : zm_I := if kw = -1 then (if nm = -1 then zs gi 50 4 (nI 1) else zs (zs gi 50 4 (nI 4)) 50 5 nm) else zs gi 50 4 (nI 8 + kw)
def fRap (gi : zm_I) (b e : Nat) : zm_I := if gi 50 4 = nI 2 then fRapW gi (fWi gi 1 b e) (fWi gi 2 b e) else gi
theorem ct_readAsPart (g : zm_G) (gi : zm_I) (gl : zm_J) (r : Nat) {b e : Nat} (hb : gi 50 2 = nI b) (he : gi 50 3 = nI e) (hbe : b ≤ e) (he5 : e ≤ 500)  : zC_v g yX9_readAsPart mX9_readAsPart 6 [.ref 50] zSH gi gl (zRT r) (fun gi' gl' gr' => gi' = fRap gi b e ∧ gl' = gl ∧ gr' = zRT r) := by
  refine zC_v_of [some (.ref 50), none, none] (by decide) rfl rfl (Nat.le_of_ble_eq_true rfl) (fun x => ?_)
  refine zA_aload_0 dX9_readAsPart_0 ?_
  refine zA_getI (v := (gi 50 4)) sh_50 fX9_36 dX9_readAsPart_1 rfl rfl ?_
  refine zA_iconst (nI 2) dX9_readAsPart_4 ic_2 ?_
  refine zA_icmp_eq 9 dX9_readAsPart_5 (by decide) (fun h => ?_) (fun h => ?_)
  · refine zA_aload_0 dX9_readAsPart_9 ?_
    refine zA_ldcS (i := 1) (by decide) rfl rfl dX9_readAsPart_10 ?_
    refine zA_cVi (ct_wordIn g gi gl r (q := 1) (by decide) hb he hbe he5) calX9_wordIn stX9_wordIn lX9_62 dX9_readAsPart_12 (by decide) (by simp [Value.category]) rfl (Nat.le_refl _) (Nat.le_refl _) sh_50 rfl (fun zz gi' gl' gr' ⟨hz, e1, e2, e3⟩ => ?_)
    rw [hz, e1, e2, e3]
    clear hz e1 e2 e3
    refine zA_istore_1 dX9_readAsPart_15 rfl ?_
    refine zA_aload_0 dX9_readAsPart_16 ?_
    refine zA_ldcS (i := 2) (by decide) rfl rfl dX9_readAsPart_17 ?_
    refine zA_cVi (ct_wordIn g gi gl r (q := 2) (by decide) hb he hbe he5) calX9_wordIn stX9_wordIn lX9_62 dX9_readAsPart_19 (by decide) (by simp [Value.category]) rfl (Nat.le_refl _) (Nat.le_refl _) sh_50 rfl (fun zz gi' gl' gr' ⟨hz, e1, e2, e3⟩ => ?_)
    rw [hz, e1, e2, e3]
    clear hz e1 e2 e3
    have e8 : fRap gi b e = fRapW gi (fWi gi 1 b e) (fWi gi 2 b e) := if_pos h
    rw [e8]
    refine zA_istore_2 dX9_readAsPart_22 rfl ?_
    refine zA_iload_1 dX9_readAsPart_23 ?_
    refine zA_iconst (-1) dX9_readAsPart_24 ic_m1 ?_
    refine zA_icmp_eq 39 dX9_readAsPart_25 (by decide) (fun c1 => ?_) (fun c1 => ?_)
    · refine zA_iload_2 dX9_readAsPart_39 ?_
      refine zA_iconst (-1) dX9_readAsPart_40 ic_m1 ?_
      refine zA_icmp_eq 57 dX9_readAsPart_41 (by decide) (fun c2 => ?_) (fun c2 => ?_)
      · refine zA_aload_0 dX9_readAsPart_57 ?_
        refine zA_iconst (nI 1) dX9_readAsPart_58 ic_1 ?_
        refine zS_putI sh_50 fX9_36 dX9_readAsPart_59 rfl rfl ?_
        have e9 : fRapW gi (fWi gi 1 b e) (fWi gi 2 b e) = zs gi 50 4 (nI 1) := (if_pos c1).trans (if_pos c2)
        rw [e9]
        exact zB_vret rfl dX9_readAsPart_62 (⟨rfl, rfl, rfl⟩)
      · refine zA_aload_0 dX9_readAsPart_44 ?_
        refine zA_iconst (nI 4) dX9_readAsPart_45 ic_4 ?_
        refine zS_putI sh_50 fX9_36 dX9_readAsPart_46 rfl rfl ?_
        refine zA_aload_0 dX9_readAsPart_49 ?_
        refine zA_iload_2 dX9_readAsPart_50 ?_
        refine zS_putI sh_50 fX9_31 dX9_readAsPart_51 rfl rfl ?_
        refine zA_goto 62 dX9_readAsPart_54 (by decide) ?_
        have e9 : fRapW gi (fWi gi 1 b e) (fWi gi 2 b e) = zs (zs gi 50 4 (nI 4)) 50 5 (fWi gi 2 b e) := (if_pos c1).trans (if_neg c2)
        rw [e9]
        exact zB_vret rfl dX9_readAsPart_62 (⟨rfl, rfl, rfl⟩)
    · refine zA_aload_0 dX9_readAsPart_28 ?_
      refine zA_bipush (nI 8) dX9_readAsPart_29 bc_8 ?_
      refine zA_iload_1 dX9_readAsPart_31 ?_
      refine zA_iadd dX9_readAsPart_32 ?_
      refine zS_putI sh_50 fX9_36 dX9_readAsPart_33 rfl rfl ?_
      refine zA_goto 62 dX9_readAsPart_36 (by decide) ?_
      have e9 : fRapW gi (fWi gi 1 b e) (fWi gi 2 b e) = zs gi 50 4 (nI 8 + fWi gi 1 b e) := if_neg c1
      rw [e9]
      exact zB_vret rfl dX9_readAsPart_62 (⟨rfl, rfl, rfl⟩)
  · have e9 : fRap gi b e = gi := if_neg h
    rw [e9]
    exact zB_vret rfl dX9_readAsPart_8 (⟨rfl, rfl, rfl⟩)
