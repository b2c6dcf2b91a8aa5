theorem fsJ38 : Cond.fieldLink RJ0 38 "java/lang/String" "COMPACT_STRINGS" "Z" ∈ zm_T := zm_inT 639 (by decide +kernel) (by decide +kernel)
theorem fsJ1053 : Cond.fieldLink RJ0 1053 "jdk/internal/util/Preconditions" "SIOOBE_FORMATTER" "Ljava/util/function/BiFunction;" ∈ zm_T := zm_inT 655 (by decide +kernel) (by decide +kernel)
theorem fsJ9 : Cond.fieldLink RJ0 9 "java/lang/String" "value" "[B" ∈ zm_T := zm_inT 1765 (by decide +kernel) (by decide +kernel)
theorem fsJ15 : Cond.fieldLink RJ0 15 "java/lang/String" "coder" "B" ∈ zm_T := zm_inT 1766 (by decide +kernel) (by decide +kernel)
theorem zB_tret {x : zm_X} {g : zm_G} {y : zm_Y} {d pc : Nat} {L : List (Option Value)} {sh : List zm_K} {gi : zm_I} {gl : zm_J} {gr : zm_R} {P : Int32 → zm_I → zm_J → zm_R → Prop} {v : Int32} {ty : FieldType} (hr : y.2.2.2 = some ty) (hd : decode y.1 pc = .ok (.ireturn, 1)) (hv : narrow ty (.int v) = .int v) (hp : P v gi gl gr) : zB_i x g y d sh P pc L [.int v] gi gl gr := by
  intro F hn ad H locs ls h1 h2 h3 h4 h5
  exact W.zret (v := v) (ty := ty) F.1 F.2.1 (F.2.2.2.2.2.2.2.2.2.2.2.2.2.trans hr) hv (fun t ht _ => zm_end (post := zm_pi sh P) h1 h2 h3 h4 ⟨v, gi, gl, gr, rfl, rfl, hp⟩ ht) h4.2.2 hd (hlocks := F.2.2.2.2.2.2.2.2.2.2.2.2.1)
theorem zst_len : ∀ i, i < 5 → Int32.ofNat (zm_len.getD i 0) >>> (nI 0 &&& 31) = nI (zm_len.getD i 0) := by decide +kernel
theorem zst_chr : ∀ i, i < 5 → ∀ j, j < zm_len.getD i 0 → (((zm_byt.getD i []).getD j 0 &&& nI 255).toUInt32 % 65536).toInt32 = (zm_byt.getD i []).getD j 0 ∧ narrow .char (.int ((zm_byt.getD i []).getD j 0)) = .int ((zm_byt.getD i []).getD j 0) := by
  intro i hi j hj
  refine ⟨?_, ?_⟩
  · revert j; revert i; decide +kernel
  · revert j; revert i; decide +kernel
theorem zst_lt : ∀ i, i < 5 → zm_len.getD i 0 < 100 := by decide +kernel
theorem zst_ofN : ∀ i, i < 5 → Int32.ofNat (zm_len.getD i 0) = nI (zm_len.getD i 0) := by decide +kernel
theorem ct_coder (g : zm_G) {sh : List zm_K} (gi : zm_I) (gl : zm_J) (gr : zm_R) {i : Nat} (hi : i < 5) : zC_i g yJ0_coder_7d493 mJ0_coder_7d493 0 [.ref (zm_cB + (1 + i))] sh gi gl gr (fun z gi' gl' gr' => z = nI 0 ∧ gi' = gi ∧ gl' = gl ∧ gr' = gr) := by
  refine zC_i_ofF (zm_L0 [.ref (zm_cB + (1 + i))] 1) (by decide +kernel) rfl rfl (Nat.le_of_ble_eq_true rfl) (fun x => ?_)
  refine zA_getsC rfl fsJ38 dJ0_coder_7d493_0 ?_
  refine zA_if_eq 13 dJ0_coder_7d493_3 (by decide) (fun hh => absurd hh (by decide)) (fun _ => ?_)
  refine zA_aload_0 dJ0_coder_7d493_6 ?_
  refine zA_strC hi fsJ15 dJ0_coder_7d493_7 ?_
  refine zA_goto 14 dJ0_coder_7d493_10 (by decide) ?_
  exact zB_tret (ty := .byte) rfl dJ0_coder_7d493_14 rfl ⟨rfl, rfl, rfl, rfl⟩
theorem ct_isLatin1 (g : zm_G) {sh : List zm_K} (gi : zm_I) (gl : zm_J) (gr : zm_R) {i : Nat} (hi : i < 5) : zC_i g yJ0_isLatin1_aae02 mJ0_isLatin1_aae02 0 [.ref (zm_cB + (1 + i))] sh gi gl gr (fun z gi' gl' gr' => z = nI 1 ∧ gi' = gi ∧ gl' = gl ∧ gr' = gr) := by
  refine zC_i_ofF (zm_L0 [.ref (zm_cB + (1 + i))] 1) (by decide +kernel) rfl rfl (Nat.le_of_ble_eq_true rfl) (fun x => ?_)
  refine zA_getsC rfl fsJ38 dJ0_isLatin1_aae02_0 ?_
  refine zA_if_eq 17 dJ0_isLatin1_aae02_3 (by decide) (fun hh => absurd hh (by decide)) (fun _ => ?_)
  refine zA_aload_0 dJ0_isLatin1_aae02_6 ?_
  refine zA_strC hi fsJ15 dJ0_isLatin1_aae02_7 ?_
  refine zA_if_ne 17 dJ0_isLatin1_aae02_10 (by decide) (fun hh => absurd (by decide) hh) (fun _ => ?_)
  refine zA_iconst (nI 1) dJ0_isLatin1_aae02_13 ic_1 ?_
  refine zA_goto 18 dJ0_isLatin1_aae02_14 (by decide) ?_
  exact zB_tret (ty := .boolean) rfl dJ0_isLatin1_aae02_18 rfl ⟨rfl, rfl, rfl, rfl⟩
theorem ct_strLen (g : zm_G) {sh : List zm_K} (gi : zm_I) (gl : zm_J) (gr : zm_R) {i : Nat} (hi : i < 5) : zC_i g yJ0_length_8abf5 mJ0_length_8abf5 1 [.ref (zm_cB + (1 + i))] sh gi gl gr (fun z gi' gl' gr' => z = nI (zm_len.getD i 0) ∧ gi' = gi ∧ gl' = gl ∧ gr' = gr) := by
  refine zC_i_ofF (zm_L0 [.ref (zm_cB + (1 + i))] 1) (by decide +kernel) rfl rfl (Nat.le_of_ble_eq_true rfl) (fun x => ?_)
  refine zA_aload_0 dJ0_length_8abf5_0 ?_
  refine zA_strV hi fsJ9 dJ0_length_8abf5_1 ?_
  refine zA_tlS hi rfl dJ0_length_8abf5_4 ?_
  refine zA_aload_0 dJ0_length_8abf5_5 ?_
  refine zA_cTi hi (ct_coder g _ _ _ hi) calJ0_coder_7d493 stJ0_coder_7d493 lJ0_335 dJ0_length_8abf5_6 (by decide) (by simp [Value.category]) rfl (Nat.le_refl _) (Nat.le_refl _) rfl (fun zz gi' gl' gr' ⟨hz, e1, e2, e3⟩ => ?_)
  rw [hz, e1, e2, e3]
  clear hz e1 e2 e3
  refine zA_ishr dJ0_length_8abf5_9 ?_
  rw [zst_len i hi]
  exact zB_iret rfl dJ0_length_8abf5_10 ⟨rfl, rfl, rfl, rfl⟩
theorem zst_nn {j : Nat} (h : j < 100) : ¬ nI j < 0 := by
  intro q
  have h2 : (nI j).toInt < (0 : Int32).toInt := Int32.lt_iff_toInt_lt.mp q
  rw [nI_toInt (by omega)] at h2
  have h3 : (0 : Int32).toInt = 0 := by decide
  omega
theorem ct_chk3N (g : zm_G) {sh : List zm_K} (gi : zm_I) (gl : zm_J) (gr : zm_R) {j n : Nat} (hj : j < n) (hn : n < 100) : zC_i g yJ3_checkIndex_8e157 mJ3_checkIndex_8e157 0 [.int (nI j), .int (nI n), .null] sh gi gl gr (fun z gi' gl' gr' => z = nI j ∧ gi' = gi ∧ gl' = gl ∧ gr' = gr) := by
  refine zC_i_ofF (zm_L0 [.int (nI j), .int (nI n), .null] 3) (by decide +kernel) rfl rfl (Nat.le_of_ble_eq_true rfl) (fun x => ?_)
  refine zA_iload_0 dJ3_checkIndex_8e157_0 ?_
  refine zA_if_lt 9 dJ3_checkIndex_8e157_1 (by decide) (fun hh => absurd hh (zst_nn (by omega))) (fun _ => ?_)
  refine zA_iload_0 dJ3_checkIndex_8e157_4 ?_
  refine zA_iload_1 dJ3_checkIndex_8e157_5 ?_
  refine zA_icmp_ltN 16 dJ3_checkIndex_8e157_6 (by decide) (by omega) (by omega) (fun _ => ?_) (fun hh => absurd hj (by omega))
  refine zA_iload_0 dJ3_checkIndex_8e157_16 ?_
  exact zB_iret rfl dJ3_checkIndex_8e157_17 ⟨rfl, rfl, rfl, rfl⟩
theorem ct_chk3R (g : zm_G) {sh : List zm_K} (gi : zm_I) (gl : zm_J) (gr : zm_R) {j n : Nat} (hj : j < n) (hn : n < 100) : zC_i g yJ3_checkIndex_8e157 mJ3_checkIndex_8e157 0 [.int (nI j), .int (nI n), .ref (zm_cB + 11)] sh gi gl gr (fun z gi' gl' gr' => z = nI j ∧ gi' = gi ∧ gl' = gl ∧ gr' = gr) := by
  refine zC_i_ofF (zm_L0 [.int (nI j), .int (nI n), .ref (zm_cB + 11)] 3) (by decide +kernel) rfl rfl (Nat.le_of_ble_eq_true rfl) (fun x => ?_)
  refine zA_iload_0 dJ3_checkIndex_8e157_0 ?_
  refine zA_if_lt 9 dJ3_checkIndex_8e157_1 (by decide) (fun hh => absurd hh (zst_nn (by omega))) (fun _ => ?_)
  refine zA_iload_0 dJ3_checkIndex_8e157_4 ?_
  refine zA_iload_1 dJ3_checkIndex_8e157_5 ?_
  refine zA_icmp_ltN 16 dJ3_checkIndex_8e157_6 (by decide) (by omega) (by omega) (fun _ => ?_) (fun hh => absurd hj (by omega))
  refine zA_iload_0 dJ3_checkIndex_8e157_16 ?_
  exact zB_iret rfl dJ3_checkIndex_8e157_17 ⟨rfl, rfl, rfl, rfl⟩
theorem ct_chk0 (g : zm_G) {sh : List zm_K} (gi : zm_I) (gl : zm_J) (gr : zm_R) {j n : Nat} (hj : j < n) (hn : n < 100) : zC_v g yJ0_checkIndex_df160 mJ0_checkIndex_df160 1 [.int (nI j), .int (nI n)] sh gi gl gr (fun gi' gl' gr' => gi' = gi ∧ gl' = gl ∧ gr' = gr) := by
  refine zC_v_ofF (zm_L0 [.int (nI j), .int (nI n)] 2) (by decide +kernel) rfl rfl (Nat.le_of_ble_eq_true rfl) (fun x => ?_)
  refine zA_iload_0 dJ0_checkIndex_df160_0 ?_
  refine zA_iload_1 dJ0_checkIndex_df160_1 ?_
  refine zA_getsF fsJ1053 dJ0_checkIndex_df160_2 ?_ ?_
  · refine zA_cSi (ct_chk3N g _ _ _ hj hn) calJ3_checkIndex_8e157 stJ3_checkIndex_8e157 lJ0_1059 dJ0_checkIndex_df160_5 (by decide) (by simp [Value.category]) rfl (Nat.le_refl _) (Nat.le_refl _) (fun zz gi' gl' gr' ⟨hz, e1, e2, e3⟩ => ?_)
    rw [hz, e1, e2, e3]
    clear hz e1 e2 e3
    refine zA_pop dJ0_checkIndex_df160_8 rfl ?_
    exact zB_vret rfl dJ0_checkIndex_df160_9 ⟨rfl, rfl, rfl⟩
  · refine zA_cSi (ct_chk3R g _ _ _ hj hn) calJ3_checkIndex_8e157 stJ3_checkIndex_8e157 lJ0_1059 dJ0_checkIndex_df160_5 (by decide) (by simp [Value.category]) rfl (Nat.le_refl _) (Nat.le_refl _) (fun zz gi' gl' gr' ⟨hz, e1, e2, e3⟩ => ?_)
    rw [hz, e1, e2, e3]
    clear hz e1 e2 e3
    refine zA_pop dJ0_checkIndex_df160_8 rfl ?_
    exact zB_vret rfl dJ0_checkIndex_df160_9 ⟨rfl, rfl, rfl⟩
theorem ct_chr1 (g : zm_G) {sh : List zm_K} (gi : zm_I) (gl : zm_J) (gr : zm_R) {i j : Nat} (hi : i < 5) (hj : j < zm_len.getD i 0) : zC_i g yJ1_charAt_3b067 mJ1_charAt_3b067 2 [.ref (zm_cB + (6 + i)), .int (nI j)] sh gi gl gr (fun z gi' gl' gr' => z = (zm_byt.getD i []).getD j 0 ∧ gi' = gi ∧ gl' = gl ∧ gr' = gr) := by
  refine zC_i_ofF (zm_L0 [.ref (zm_cB + (6 + i)), .int (nI j)] 2) (by decide +kernel) rfl rfl (Nat.le_of_ble_eq_true rfl) (fun x => ?_)
  have hl := zst_lt i hi
  refine zA_iload_1 dJ1_charAt_3b067_0 ?_
  refine zA_aload_0 dJ1_charAt_3b067_1 ?_
  refine zA_tlS hi (zst_ofN i hi) dJ1_charAt_3b067_2 ?_
  refine zA_cSv (ct_chk0 g _ _ _ hj hl) calJ0_checkIndex_df160 stJ0_checkIndex_df160 lJ1_9 dJ1_charAt_3b067_3 (by decide) (by simp [Value.category]) rfl (Nat.le_refl _) (Nat.le_refl _) (fun gi' gl' gr' ⟨e1, e2, e3⟩ => ?_)
  rw [e1, e2, e3]
  clear e1 e2 e3
  refine zA_aload_0 dJ1_charAt_3b067_6 ?_
  refine zA_iload_1 dJ1_charAt_3b067_7 ?_
  refine zA_tbS hi j rfl hj (by omega) rfl dJ1_charAt_3b067_8 ?_
  refine zA_sipush (nI 255) dJ1_charAt_3b067_9 sc_255 ?_
  refine zA_iand dJ1_charAt_3b067_12 ?_
  refine zA_i2c dJ1_charAt_3b067_13 (zst_chr i hi j hj).1 ?_
  exact zB_tret (ty := .char) rfl dJ1_charAt_3b067_14 (zst_chr i hi j hj).2 ⟨rfl, rfl, rfl, rfl⟩
theorem ct_charAt (g : zm_G) {sh : List zm_K} (gi : zm_I) (gl : zm_J) (gr : zm_R) {i j : Nat} (hi : i < 5) (hj : j < zm_len.getD i 0) : zC_i g yJ0_charAt_5068e mJ0_charAt_5068e 3 [.ref (zm_cB + (1 + i)), .int (nI j)] sh gi gl gr (fun z gi' gl' gr' => z = (zm_byt.getD i []).getD j 0 ∧ gi' = gi ∧ gl' = gl ∧ gr' = gr) := by
  refine zC_i_ofF (zm_L0 [.ref (zm_cB + (1 + i)), .int (nI j)] 2) (by decide +kernel) rfl rfl (Nat.le_of_ble_eq_true rfl) (fun x => ?_)
  refine zA_aload_0 dJ0_charAt_5068e_0 ?_
  refine zA_cTi hi (ct_isLatin1 g _ _ _ hi) calJ0_isLatin1_aae02 stJ0_isLatin1_aae02 lJ0_492 dJ0_charAt_5068e_1 (by decide) (by simp [Value.category]) rfl (Nat.le_refl _) (Nat.le_refl _) rfl (fun zz gi' gl' gr' ⟨hz, e1, e2, e3⟩ => ?_)
  rw [hz, e1, e2, e3]
  clear hz e1 e2 e3
  refine zA_if_eq 16 dJ0_charAt_5068e_4 (by decide) (fun hh => absurd hh (by decide)) (fun _ => ?_)
  refine zA_aload_0 dJ0_charAt_5068e_7 ?_
  refine zA_strV hi fsJ9 dJ0_charAt_5068e_8 ?_
  refine zA_iload_1 dJ0_charAt_5068e_11 ?_
  refine zA_cSi (ct_chr1 g _ _ _ hi hj) calJ1_charAt_3b067 stJ1_charAt_3b067 lJ0_495 dJ0_charAt_5068e_12 (by decide) (by simp [Value.category]) rfl (Nat.le_refl _) (Nat.le_refl _) (fun zz gi' gl' gr' ⟨hz, e1, e2, e3⟩ => ?_)
  rw [hz, e1, e2, e3]
  clear hz e1 e2 e3
  exact zB_tret (ty := .char) rfl dJ0_charAt_5068e_15 (zst_chr i hi j hj).2 ⟨rfl, rfl, rfl, rfl⟩
