abbrev fIsW (gi : zm_I) (q f t b e : Nat) : Prop := t - f = e - b ∧ ∀ k, k < t → f ≤ k → (zm_byt.getD q []).getD k 0 = gi 1 (b + k - f)
theorem ct_isWord (g : zm_G) (gi : zm_I) (gl : zm_J) (r : Nat) {q f t b e : Nat} (hq : q < 5) (hft : f ≤ t) (htl : t ≤ zm_len.getD q 0) (hb : gi 50 2 = nI b) (he : gi 50 3 = nI e) (hbe : b ≤ e) (he5 : e ≤ 500)  : zC_i g yX9_isWord mX9_isWord 4 [.ref 50, .ref (zm_cB + (1 + q)), .int (nI f), .int (nI t)] zSH gi gl (zRT r) (fun z gi' gl' gr' => z = zb (fIsW gi q f t b e) ∧ gi' = gi ∧ gl' = gl ∧ gr' = zRT r) := by
  have hl := zst_lt q hq
  refine zC_i_of [some (.ref 50), some (.ref (zm_cB + (1 + q))), some (.int (nI f)), some (.int (nI t)), none] (by decide) rfl rfl (Nat.le_of_ble_eq_true rfl) (fun x => ?_)
  refine zA_iload_3 dX9_isWord_0 ?_
  refine zA_iload_2 dX9_isWord_1 ?_
  refine zA_isubN dX9_isWord_2 (by omega) ?_
  refine zA_aload_0 dX9_isWord_3 ?_
  refine zA_getI (v := (nI e)) sh_50 fX9_25 dX9_isWord_4 rfl he ?_
  refine zA_aload_0 dX9_isWord_7 ?_
  refine zA_getI (v := (nI b)) sh_50 fX9_28 dX9_isWord_8 rfl hb ?_
  refine zA_isubN dX9_isWord_11 (by omega) ?_
  refine zA_icmp_eqN 17 dX9_isWord_12 (by decide) (by omega) (by omega) (fun c => ?_) (fun c => ?_)
  · refine zA_iload_2 dX9_isWord_17 ?_
    refine zA_istore_4 dX9_isWord_18 rfl ?_
    have key : ∀ (m k : Nat), k + m = t → f ≤ k → (∀ j, j < k → f ≤ j → (zm_byt.getD q []).getD j 0 = gi 1 (b + j - f)) → zB_i x g mX9_isWord 4 zSH (fun z gi' gl' gr' => z = zb (fIsW gi q f t b e) ∧ gi' = gi ∧ gl' = gl ∧ gr' = zRT r) 20 [some (.ref 50), some (.ref (zm_cB + (1 + q))), some (.int (nI f)), some (.int (nI t)), some (.int (nI k))] [] gi gl (zRT r) := by
      intro m
      induction m with
      | zero =>
        intro k hk hfk hall
        refine zA_iload_4 dX9_isWord_20 ?_
        refine zA_iload_3 dX9_isWord_22 ?_
        refine zA_icmp_geN 57 dX9_isWord_23 (by decide) (by omega) (by omega) (fun h => ?_) (fun h => ?_)
        · refine zA_iconst (nI 1) dX9_isWord_57 ic_1 ?_
          exact zB_zret rfl dX9_isWord_58 (by decide) (⟨(zb_t ⟨c, fun j hj hf => hall j (by omega) hf⟩).symm, rfl, rfl, rfl⟩)
        · exact absurd h (by omega)
      | succ m ih =>
        intro k hk hfk hall
        refine zA_iload_4 dX9_isWord_20 ?_
        refine zA_iload_3 dX9_isWord_22 ?_
        refine zA_icmp_geN 57 dX9_isWord_23 (by decide) (by omega) (by omega) (fun h => ?_) (fun h => ?_)
        · exact absurd h (by omega)
        · refine zA_aload_1 dX9_isWord_26 ?_
          refine zA_iload_4 dX9_isWord_27 ?_
          refine zA_cTi hq (ct_charAt g _ _ _ hq (j := k) (by omega)) calJ0_charAt_5068e stJ0_charAt_5068e lX9_75 dX9_isWord_29 (by decide) (by simp [Value.category]) rfl (Nat.le_refl _) (Nat.le_refl _) rfl (fun zz gi' gl' gr' ⟨hz, e1, e2, e3⟩ => ?_)
          rw [hz, e1, e2, e3]
          clear hz e1 e2 e3
          refine zA_aload_0 dX9_isWord_32 ?_
          refine zA_getR sh_50 fX9_9 dX9_isWord_33 rfl (rt_50_0 _) ?_
          refine zA_aload_0 dX9_isWord_36 ?_
          refine zA_getI (v := (nI b)) sh_50 fX9_28 dX9_isWord_37 rfl hb ?_
          refine zA_iload_4 dX9_isWord_40 ?_
          refine zA_iaddN dX9_isWord_42 ?_
          refine zA_iload_2 dX9_isWord_43 ?_
          refine zA_isubN dX9_isWord_44 (by omega) ?_
          refine zA_bald (v := (gi 1 ((b + k) - f))) ((b + k) - f) sh_1 dX9_isWord_45 rfl (by omega) (by decide) rfl ?_
          refine zA_icmp_eq 51 dX9_isWord_46 (by decide) (fun d => ?_) (fun d => ?_)
          · refine zA_iinc_4 (v := nI (k + 1)) dX9_isWord_51 (zn_inc _) rfl ?_
            refine zA_goto 20 dX9_isWord_54 (by decide) ?_
            exact ih (k + 1) (by omega) (by omega) (fun j hj hf => if e : j = k then by rw [e]; exact d else hall j (by omega) hf)
          · refine zA_iconst (nI 0) dX9_isWord_49 ic_0 ?_
            exact zB_zret rfl dX9_isWord_50 (by decide) (⟨(zb_f (fun z => d (z.2 k (by omega) hfk))).symm, rfl, rfl, rfl⟩)
    exact key (t - f) f (by omega) (Nat.le_refl _) (fun j h1 h2 => absurd h1 (by omega))
  · refine zA_iconst (nI 0) dX9_isWord_15 ic_0 ?_
    exact zB_zret rfl dX9_isWord_16 (by decide) (⟨(zb_f (fun q => absurd q.1 (by omega))).symm, rfl, rfl, rfl⟩)
