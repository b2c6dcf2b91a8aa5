abbrev fIsW (gi : zm_I) (q f t b e : Nat) : Prop := t - f = e - b ∧ ∀ k, k < t → f ≤ k → (zm_byt.getD q []).getD k 0 = gi 1 (b + k - f)
theorem ct_isWord (g : zm_G) (gi : zm_I) (gl : zm_J) (r : Nat) {q f t b e : Nat} (hq : q < 5) (hft : f ≤ t) (htl : t ≤ zm_len.getD q 0) (hb : gi 50 2 = nI b) (he : gi 50 3 = nI e) (hbe : b ≤ e) (he5 : e ≤ 500)  : zC_i g yX9_isWord mX9_isWord 4 [.ref 50, .ref (zm_cB + (1 + q)), .int (nI f), .int (nI t)] zSH gi gl (zRT r) (fun z gi' gl' gr' => z = zb (fIsW gi q f t b e) ∧ gi' = gi ∧ gl' = gl ∧ gr' = zRT r) := by
  have hl := zst_lt q hq
  refine zC_i_of [some (.ref 50), some (.ref (zm_cB + (1 + q))), some (.int (nI f)), some (.int (nI t)), none] (by decide) rfl rfl (Nat.le_of_ble_eq_true rfl) (fun x => ?_)
  refine zA_iload_3 dX9_isWord_0 ?_
  refine zA_iload_2 dX9_isWord_1 ?_
  refine zA_isubN dX9_isWord_2 (by omega) ?_
  refine zA_aload_0 dX9_isWord_3 ?_
  refine zA_getI (v := (nI e)) sh_50 fX9_25 dX9_isWord_4 rfl he ?_
  refine zA_aload_0 dX9_isWord_7 ?_
  refine zA_getI (v := (nI b)) sh_50 fX9_28 dX9_isWord_8 rfl hb ?_
  refine zA_isubN dX9_isWord_11 (by omega) ?_
  refine zA_icmp_eqN 17 dX9_isWord_12 (by decide) (by omega) (by omega) (fun c => ?_) (fun c => ?_)
  · refine zA_iload_2 dX9_isWord_17 ?_
    refine zA_istore_4 dX9_isWord_18 rfl ?_
    have key : ∀ (m k : Nat), k + m = t → f ≤ k → (∀ j, j < k → f ≤ j → (zm_byt.getD q []).getD j 0 = gi 1 (b + j - f)) → zB_i x g mX9_isWord 4 zSH (fun z gi' gl' gr' => z = zb (fIsW gi q f t b e) ∧ gi' = gi ∧ gl' = gl ∧ gr' = zRT r) 20 [some (.ref 50), some (.ref (zm_cB + (1 + q))), some (.int (nI f)), some (.int (nI t)), some (.int (nI k))] [] gi gl (zRT r) := by
      intro m
      induction m with
      | zero =>
        intro k hk hfk hall
        refine zA_iload_4 dX9_isWord_20 ?_
        refine zA_iload_3 dX9_isWord_22 ?_
        refine zA_icmp_geN 57 dX9_isWord_23 (by decide) (by omega) (by omega) (fun h => ?_) (fun h => ?_)
        · refine zA_iconst (nI 1) dX9_isWord_57 ic_1 ?_
          exact zB_zret rfl dX9_isWord_58 (by decide) (⟨(zb_t ⟨c, fun j hj hf => hall j (by omega) hf⟩).symm, rfl, rfl, rfl⟩)
        · exact absurd h (by omega)
      | succ m ih =>
        intro k hk hfk hall
        refine zA_iload_4 dX9_isWord_20 ?_
        refine zA_iload_3 dX9_isWord_22 ?_
        refine zA_icmp_geN 57 dX9_isWord_23 (by decide) (by omega) (by omega) (fun h => ?_) (fun h => ?_)
        · exact absurd h (by omega)
        · refine zA_aload_1 dX9_isWord_26 ?_
          refine zA_iload_4 dX9_isWord_27 ?_
          refine zA_cTi hq (ct_charAt g _ _ _ hq (j := k) (by omega)) calJ0_charAt_5068e stJ0_charAt_5068e lX9_75 dX9_isWord_29 (by decide) (by simp [Value.category]) rfl (Nat.le_refl _) (Nat.le_refl _) rfl (fun zz gi' gl' gr' ⟨hz, e1, e2, e3⟩ => ?_)
          rw [hz, e1, e2, e3]
          clear hz e1 e2 e3
          refine zA_aload_0 dX9_isWord_32 ?_
          refine zA_getR sh_50 fX9_9 dX9_isWord_33 rfl (rt_50_0 _) ?_
          refine zA_aload_0 dX9_isWord_36 ?_
          refine zA_getI (v := (nI b)) sh_50 fX9_28 dX9_isWord_37 rfl hb ?_
          refine zA_iload_4 dX9_isWord_40 ?_
          refine zA_iaddN dX9_isWord_42 ?_
          refine zA_iload_2 dX9_isWord_43 ?_
          refine zA_isubN dX9_isWord_44 (by omega) ?_
          refine zA_bald (v := (gi 1 ((b + k) - f))) ((b + k) - f) sh_1 dX9_isWord_45 rfl (by omega) (by decide) rfl ?_
          refine zA_icmp_eq 51 dX9_isWord_46 (by decide) (fun d => ?_) (fun d => ?_)
          · refine zA_iinc_4 (v := nI (k + 1)) dX9_isWord_51 (zn_inc _) rfl ?_
            refine zA_goto 20 dX9_isWord_54 (by decide) ?_
            exact ih (k + 1) (by omega) (by omega) (fun j hj hf => if e : j = k then by rw [e]; exact d else hall j (by omega) hf)
          · refine zA_iconst (nI 0) dX9_isWord_49 ic_0 ?_
            exact zB_zret rfl dX9_isWord_50 (by decide) (⟨(zb_f (fun z => d (z.2 k (by omega) hfk))).symm, rfl, rfl, rfl⟩)
    exact key (t - f) f (by omega) (Nat.le_refl _) (fun j h1 h2 => absurd h1 (by omega))
  · refine zA_iconst (nI 0) dX9_isWord_15 ic_0 ?_
    exact zB_zret rfl dX9_isWord_16 (by decide) (⟨(zb_f (fun q => absurd q.1 (by omega))).symm, rfl, rfl, rfl⟩)
def fWiL (gi : zm_I) (q b e : Nat) : Nat → Nat → Nat → Nat → Int32
  | 0, _, _, _ => -1
  | m + 1, i, num, fr => if i = zm_len.getD q 0 ∨ (zm_byt.getD q []).getD i 0 = nI 32 then (if fIsW gi q fr i b e then nI num else fWiL gi q b e m (i + 1) (num + 1) (i + 1)) else fWiL gi q b e m (i + 1) num fr
def fWi (gi : zm_I) (q b e : Nat) : Int32 := fWiL gi q b e (zm_len.getD q 0 + 1) 0 0 0
theorem ct_wordIn (g : zm_G) (gi : zm_I) (gl : zm_J) (r : Nat) {q b e : Nat} (hq : q < 5) (hb : gi 50 2 = nI b) (he : gi 50 3 = nI e) (hbe : b ≤ e) (he5 : e ≤ 500)  : zC_i g yX9_wordIn mX9_wordIn 5 [.ref 50, .ref (zm_cB + (1 + q))] zSH gi gl (zRT r) (fun z gi' gl' gr' => z = fWi gi q b e ∧ gi' = gi ∧ gl' = gl ∧ gr' = zRT r) := by
  have hl := zst_lt q hq
  refine zC_i_of [some (.ref 50), some (.ref (zm_cB + (1 + q))), none, none, none] (by decide) rfl rfl (Nat.le_of_ble_eq_true rfl) (fun x => ?_)
  refine zA_iconst (nI 0) dX9_wordIn_0 ic_0 ?_
  refine zA_istore_2 dX9_wordIn_1 rfl ?_
  refine zA_iconst (nI 0) dX9_wordIn_2 ic_0 ?_
  refine zA_istore_3 dX9_wordIn_3 rfl ?_
  refine zA_iconst (nI 0) dX9_wordIn_4 ic_0 ?_
  refine zA_istore_4 dX9_wordIn_5 rfl ?_
  generalize hV : fWi gi q b e = V
  unfold fWi at hV
  have key : ∀ (m i num fr : Nat), i + m = zm_len.getD q 0 + 1 → fr ≤ i → fWiL gi q b e m i num fr = V → zB_i x g mX9_wordIn 5 zSH (fun z gi' gl' gr' => z = V ∧ gi' = gi ∧ gl' = gl ∧ gr' = zRT r) 7 [some (.ref 50), some (.ref (zm_cB + (1 + q))), some (.int (nI num)), some (.int (nI fr)), some (.int (nI i))] [] gi gl (zRT r) := by
    intro m
    induction m with
    | zero =>
      intro i num fr hi hfr hv
      refine zA_iload_4 dX9_wordIn_7 ?_
      refine zA_aload_1 dX9_wordIn_9 ?_
      refine zA_cTi hq (ct_strLen g _ _ _ hq) calJ0_length_8abf5 stJ0_length_8abf5 lX9_70 dX9_wordIn_10 (by decide) (by simp [Value.category]) rfl (Nat.le_refl _) (Nat.le_refl _) rfl (fun zz gi' gl' gr' ⟨hz, e1, e2, e3⟩ => ?_)
      rw [hz, e1, e2, e3]
      clear hz e1 e2 e3
      refine zA_icmp_gtN 63 dX9_wordIn_13 (by decide) (by omega) (by omega) (fun h => ?_) (fun h => ?_)
      · refine zA_iconst (-1) dX9_wordIn_63 ic_m1 ?_
        exact zB_iret rfl dX9_wordIn_64 (⟨hv, rfl, rfl, rfl⟩)
      · exact absurd h (by omega)
    | succ m ih =>
      intro i num fr hi hfr hv
      refine zA_iload_4 dX9_wordIn_7 ?_
      refine zA_aload_1 dX9_wordIn_9 ?_
      refine zA_cTi hq (ct_strLen g _ _ _ hq) calJ0_length_8abf5 stJ0_length_8abf5 lX9_70 dX9_wordIn_10 (by decide) (by simp [Value.category]) rfl (Nat.le_refl _) (Nat.le_refl _) rfl (fun zz gi' gl' gr' ⟨hz, e1, e2, e3⟩ => ?_)
      rw [hz, e1, e2, e3]
      clear hz e1 e2 e3
      refine zA_icmp_gtN 63 dX9_wordIn_13 (by decide) (by omega) (by omega) (fun h => ?_) (fun h => ?_)
      · exact absurd h (by omega)
      · refine zA_iload_4 dX9_wordIn_16 ?_
        refine zA_aload_1 dX9_wordIn_18 ?_
        refine zA_cTi hq (ct_strLen g _ _ _ hq) calJ0_length_8abf5 stJ0_length_8abf5 lX9_70 dX9_wordIn_19 (by decide) (by simp [Value.category]) rfl (Nat.le_refl _) (Nat.le_refl _) rfl (fun zz gi' gl' gr' ⟨hz, e1, e2, e3⟩ => ?_)
        rw [hz, e1, e2, e3]
        clear hz e1 e2 e3
        refine zA_icmp_eqN 36 dX9_wordIn_22 (by decide) (by omega) (by omega) (fun c => ?_) (fun c => ?_)
        · have hv2 := (if_pos (Or.inl c)).symm.trans hv
          refine zA_aload_0 dX9_wordIn_36 ?_
          refine zA_aload_1 dX9_wordIn_37 ?_
          refine zA_iload_3 dX9_wordIn_38 ?_
          refine zA_iload_4 dX9_wordIn_39 ?_
          refine zA_cVi (ct_isWord g gi gl r hq (f := fr) (t := i) hfr (by omega) hb he hbe he5) calX9_isWord stX9_isWord lX9_79 dX9_wordIn_41 (by decide) (by simp [Value.category]) rfl (Nat.le_refl _) (Nat.le_refl _) sh_50 rfl (fun zz gi' gl' gr' ⟨hz, e1, e2, e3⟩ => ?_)
          rw [hz, e1, e2, e3]
          clear hz e1 e2 e3
          refine zA_if_eqB 49 dX9_wordIn_44 (by decide) (fun d => ?_) (fun d => ?_)
          · refine zA_iinc_2 (v := nI (num + 1)) dX9_wordIn_49 (zn_inc _) rfl ?_
            refine zA_iload_4 dX9_wordIn_52 ?_
            refine zA_iconst (nI 1) dX9_wordIn_54 ic_1 ?_
            refine zA_iaddN dX9_wordIn_55 ?_
            refine zA_istore_3 dX9_wordIn_56 rfl ?_
            refine zA_iinc_4 (v := nI (i + 1)) dX9_wordIn_57 (zn_inc _) rfl ?_
            refine zA_goto 7 dX9_wordIn_60 (by decide) ?_
            exact ih (i + 1) (num + 1) (i + 1) (by omega) (Nat.le_refl _) ((if_neg d).symm.trans hv2)
          · refine zA_iload_2 dX9_wordIn_47 ?_
            exact zB_iret rfl dX9_wordIn_48 (⟨(if_pos d).symm.trans hv2, rfl, rfl, rfl⟩)
        · refine zA_aload_1 dX9_wordIn_25 ?_
          refine zA_iload_4 dX9_wordIn_26 ?_
          refine zA_cTi hq (ct_charAt g _ _ _ hq (j := i) (by omega)) calJ0_charAt_5068e stJ0_charAt_5068e lX9_75 dX9_wordIn_28 (by decide) (by simp [Value.category]) rfl (Nat.le_refl _) (Nat.le_refl _) rfl (fun zz gi' gl' gr' ⟨hz, e1, e2, e3⟩ => ?_)
          rw [hz, e1, e2, e3]
          clear hz e1 e2 e3
          refine zA_bipush (nI 32) dX9_wordIn_31 bc_32 ?_
          refine zA_icmp_ne 57 dX9_wordIn_33 (by decide) (fun c2 => ?_) (fun c2 => ?_)
          · refine zA_iinc_4 (v := nI (i + 1)) dX9_wordIn_57 (zn_inc _) rfl ?_
            refine zA_goto 7 dX9_wordIn_60 (by decide) ?_
            exact ih (i + 1) num fr (by omega) (by omega) ((if_neg (fun z => z.elim c c2)).symm.trans hv)
          · have hv2 := (if_pos (Or.inr c2)).symm.trans hv
            refine zA_aload_0 dX9_wordIn_36 ?_
            refine zA_aload_1 dX9_wordIn_37 ?_
            refine zA_iload_3 dX9_wordIn_38 ?_
            refine zA_iload_4 dX9_wordIn_39 ?_
            refine zA_cVi (ct_isWord g gi gl r hq (f := fr) (t := i) hfr (by omega) hb he hbe he5) calX9_isWord stX9_isWord lX9_79 dX9_wordIn_41 (by decide) (by simp [Value.category]) rfl (Nat.le_refl _) (Nat.le_refl _) sh_50 rfl (fun zz gi' gl' gr' ⟨hz, e1, e2, e3⟩ => ?_)
            rw [hz, e1, e2, e3]
            clear hz e1 e2 e3
            refine zA_if_eqB 49 dX9_wordIn_44 (by decide) (fun d => ?_) (fun d => ?_)
            · refine zA_iinc_2 (v := nI (num + 1)) dX9_wordIn_49 (zn_inc _) rfl ?_
              refine zA_iload_4 dX9_wordIn_52 ?_
              refine zA_iconst (nI 1) dX9_wordIn_54 ic_1 ?_
              refine zA_iaddN dX9_wordIn_55 ?_
              refine zA_istore_3 dX9_wordIn_56 rfl ?_
              refine zA_iinc_4 (v := nI (i + 1)) dX9_wordIn_57 (zn_inc _) rfl ?_
              refine zA_goto 7 dX9_wordIn_60 (by decide) ?_
              exact ih (i + 1) (num + 1) (i + 1) (by omega) (Nat.le_refl _) ((if_neg d).symm.trans hv2)
            · refine zA_iload_2 dX9_wordIn_47 ?_
              exact zB_iret rfl dX9_wordIn_48 (⟨(if_pos d).symm.trans hv2, rfl, rfl, rfl⟩)
  exact key _ 0 0 0 (by omega) (Nat.le_refl _) hV
