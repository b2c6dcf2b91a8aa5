section ZST
variable {x : zm_X} {g : zm_G} {y : zm_Y} {d mc ms : Nat} {Q : State → Prop} {ce sl pc : Nat} {L : List (Option Value)} {st : List Value} {M : zm_M}
theorem zm_old {a : Nat} (F : zm_fix x g y d mc ms) : ∀ a : Nat, a < g.1.size → ¬ zm_A g a → x.s.heap[a]? = g.1[a]? := fun a h _ => F.2.2.2.2.2.2.2.2.2.2.2.1 a h
theorem zA_getsW {idx : Nat} (hl : Cond.fieldLink y.2.1 idx "VanShows$Law" "WITHOUT_LINE" "[I" ∈ zm_T) (hd : decode y.1 pc = .ok (.getstatic idx, 3)) (k : zA x g y d mc ms Q ce sl (pc + 3) L (.ref (zm_cB + 0) :: st) M) : zA x g y d mc ms Q ce sl pc L st M := by
  intro F hn ad H locs ls h1 h2 h3 h4 h5
  have hk := k F hn ad H locs ls h1 h2 h3 h4 h5
  have hZ := F.2.2.2.2.2.2.2.2.2.1.2.2.1.kept (zm_old (a := 0) F)
  refine va_gets (own := y.2.1) (ref := "VanShows$Law") F.1 F.2.1 hZ h4 F.2.2.2.1 (F.2.2.2.2.1 _ hl) (fun _ h => h) hd ?_
  have e : zm_c ad (.ref (zm_cB + 0)) = .ref (g.2.2.2 0) := congrArg Value.ref (h3.2.2.2.2.1 0)
  rw [← e]
  exact hk
theorem zA_tiW {i : Int32} {v : Int32} (j : Nat) (hj : i = nI j) (hn' : j < 5) (hv : zm_wl.getD j 0 = v) (hd : decode y.1 pc = .ok (.iaload, 1)) (k : zA x g y d mc ms Q ce sl (pc + 1) L (.int v :: st) M) : zA x g y d mc ms Q ce sl pc L (.int i :: .ref (zm_cB + 0) :: st) M := by
  intro F hn ad H locs ls h1 h2 h3 h4 h5
  have hk := k F hn ad H locs ls h1 h2 h3 h4 h5
  have hT := F.2.2.2.2.2.2.2.2.2.1.2.2.2.1.kept (zm_old (a := 0) F)
  obtain ⟨hin, hcl⟩ := zm_in hj hn' (by decide)
  have e : zm_c ad (.ref (zm_cB + 0)) = .ref (g.2.2.2 0) := congrArg Value.ref (h3.2.2.2.2.1 0)
  show W _ _ _ _ _ _ _ _ _ _ _ _ _ _ _ (F0 _ _ _ (.int i :: zm_c ad (.ref (zm_cB + 0)) :: st.map (zm_c ad)))
  rw [e]
  exact va_ti F.1 F.2.1 hT h4 hin (v := .int v) (by rw [hcl, hv]) hd hk
end ZST
theorem fsW : Cond.fieldLink RX4 55 "VanShows$Law" "WITHOUT_LINE" "[I" ∈ zm_T := zm_inT 928 (by decide +kernel) (by decide +kernel)
def fRank (k : Int32) : Int32 := if nI 7 < k then (if nI 10 < k then (if nI 16 < k then (if nI 18 < k then (if nI 21 < k then nI 7 else nI 6) else nI 5) else nI 4) else k - nI 7) else nI 0
abbrev fTwo (k : Int32) : Prop := ¬ k < nI 8 ∧ ¬ nI 21 < k ∧ ¬ k = nI 10
theorem ct_rank (g : zm_G) {sh : List zm_K} (gi : zm_I) (gl : zm_J) (gr : zm_R) (k : Int32)  : zC_i g yX2_rank mX2_rank 0 [.int k] sh gi gl gr (fun z gi' gl' gr' => z = fRank k ∧ gi' = gi ∧ gl' = gl ∧ gr' = gr) := by
  refine zC_i_of [some (.int k)] (by decide) rfl rfl (Nat.le_of_ble_eq_true rfl) (fun x => ?_)
  refine zA_iload_0 dX2_rank_0 ?_
  refine zA_bipush (nI 7) dX2_rank_1 bc_7 ?_
  refine zA_icmp_gt 8 dX2_rank_3 (by decide) (fun h0 => ?_) (fun h0 => ?_)
  · refine zA_iload_0 dX2_rank_8 ?_
    refine zA_bipush (nI 10) dX2_rank_9 bc_10 ?_
    refine zA_icmp_gt 19 dX2_rank_11 (by decide) (fun h1 => ?_) (fun h1 => ?_)
    · refine zA_iload_0 dX2_rank_19 ?_
      refine zA_bipush (nI 16) dX2_rank_20 bc_16 ?_
      refine zA_icmp_gt 27 dX2_rank_22 (by decide) (fun h2 => ?_) (fun h2 => ?_)
      · refine zA_iload_0 dX2_rank_27 ?_
        refine zA_bipush (nI 18) dX2_rank_28 bc_18 ?_
        refine zA_icmp_gt 35 dX2_rank_30 (by decide) (fun h3 => ?_) (fun h3 => ?_)
        · refine zA_iload_0 dX2_rank_35 ?_
          refine zA_bipush (nI 21) dX2_rank_36 bc_21 ?_
          refine zA_icmp_gt 46 dX2_rank_38 (by decide) (fun h4 => ?_) (fun h4 => ?_)
          · refine zA_bipush (nI 7) dX2_rank_46 bc_7 ?_
            exact zB_iret rfl dX2_rank_48 (⟨by unfold fRank; rw [if_pos h0, if_pos h1, if_pos h2, if_pos h3, if_pos h4], rfl, rfl, rfl⟩)
          · refine zA_bipush (nI 6) dX2_rank_41 bc_6 ?_
            refine zA_goto 48 dX2_rank_43 (by decide) ?_
            exact zB_iret rfl dX2_rank_48 (⟨by unfold fRank; rw [if_pos h0, if_pos h1, if_pos h2, if_pos h3, if_neg h4], rfl, rfl, rfl⟩)
        · refine zA_iconst (nI 5) dX2_rank_33 ic_5 ?_
          exact zB_iret rfl dX2_rank_34 (⟨by unfold fRank; rw [if_pos h0, if_pos h1, if_pos h2, if_neg h3], rfl, rfl, rfl⟩)
      · refine zA_iconst (nI 4) dX2_rank_25 ic_4 ?_
        exact zB_iret rfl dX2_rank_26 (⟨by unfold fRank; rw [if_pos h0, if_pos h1, if_neg h2], rfl, rfl, rfl⟩)
    · refine zA_iload_0 dX2_rank_14 ?_
      refine zA_bipush (nI 7) dX2_rank_15 bc_7 ?_
      refine zA_isub dX2_rank_17 ?_
      exact zB_iret rfl dX2_rank_18 (⟨by unfold fRank; rw [if_pos h0, if_neg h1], rfl, rfl, rfl⟩)
  · refine zA_iconst (nI 0) dX2_rank_6 ic_0 ?_
    exact zB_iret rfl dX2_rank_7 (⟨by unfold fRank; rw [if_neg h0], rfl, rfl, rfl⟩)
theorem ct_joinsTwo (g : zm_G) {sh : List zm_K} (gi : zm_I) (gl : zm_J) (gr : zm_R) (k : Int32)  : zC_i g yX2_joinsTwo mX2_joinsTwo 0 [.int k] sh gi gl gr (fun z gi' gl' gr' => z = zb (fTwo k) ∧ gi' = gi ∧ gl' = gl ∧ gr' = gr) := by
  refine zC_i_of [some (.int k)] (by decide) rfl rfl (Nat.le_of_ble_eq_true rfl) (fun x => ?_)
  refine zA_iload_0 dX2_joinsTwo_0 ?_
  refine zA_bipush (nI 8) dX2_joinsTwo_1 bc_8 ?_
  refine zA_icmp_lt 22 dX2_joinsTwo_3 (by decide) (fun h0 => ?_) (fun h0 => ?_)
  · refine zA_iconst (nI 0) dX2_joinsTwo_22 ic_0 ?_
    exact zB_zret rfl dX2_joinsTwo_23 (by decide) (⟨(zb_f (fun q => q.1 h0)).symm, rfl, rfl, rfl⟩)
  · refine zA_iload_0 dX2_joinsTwo_6 ?_
    refine zA_bipush (nI 21) dX2_joinsTwo_7 bc_21 ?_
    refine zA_icmp_gt 22 dX2_joinsTwo_9 (by decide) (fun h1 => ?_) (fun h1 => ?_)
    · refine zA_iconst (nI 0) dX2_joinsTwo_22 ic_0 ?_
      exact zB_zret rfl dX2_joinsTwo_23 (by decide) (⟨(zb_f (fun q => q.2.1 h1)).symm, rfl, rfl, rfl⟩)
    · refine zA_iload_0 dX2_joinsTwo_12 ?_
      refine zA_bipush (nI 10) dX2_joinsTwo_13 bc_10 ?_
      refine zA_icmp_eq 22 dX2_joinsTwo_15 (by decide) (fun h2 => ?_) (fun h2 => ?_)
      · refine zA_iconst (nI 0) dX2_joinsTwo_22 ic_0 ?_
        exact zB_zret rfl dX2_joinsTwo_23 (by decide) (⟨(zb_f (fun q => q.2.2 h2)).symm, rfl, rfl, rfl⟩)
      · refine zA_iconst (nI 1) dX2_joinsTwo_18 ic_1 ?_
        refine zA_goto 23 dX2_joinsTwo_19 (by decide) ?_
        exact zB_zret rfl dX2_joinsTwo_23 (by decide) (⟨(zb_t ⟨h0, h1, h2⟩).symm, rfl, rfl, rfl⟩)
def zabs (a : Int64) : Int64 := if 0 ≤ lg_cmp a 0 then a else -a
def zERR : Int64 := -9223372036854775808
def fProd (a b : Int64) : Int64 := if lg_cmp (zabs b) 0 = 0 then 0 else if lg_cmp (zabs a) (1000000000000 / zabs b) ≤ 0 then a * b else zERR
theorem lg_cmp_self (a : Int64) : lg_cmp a a = 0 := by unfold lg_cmp; simp
theorem ct_product (g : zm_G) {sh : List zm_K} (gi : zm_I) (gl : zm_J) (gr : zm_R) (a b : Int64)  : zC_l g yX4_product mX4_product 0 [.long a, .long b] sh gi gl gr (fun z gi' gl' gr' => z = fProd a b ∧ gi' = gi ∧ gl' = gl ∧ gr' = gr) := by
  refine zC_l_of [some (.long a), none, some (.long b), none, none, none, none, none] (by decide) rfl rfl (Nat.le_of_ble_eq_true rfl) (fun x => ?_)
  refine zA_lload_0 dX4_product_0 ?_
  refine zA_lconst 0 dX4_product_1 (by decide) ?_
  refine zA_lcmp dX4_product_2 ?_
  have j1 : ∀ (u : Int64), u = zabs a → zB_l x g mX4_product 0 sh (fun z gi' gl' gr' => z = fProd a b ∧ gi' = gi ∧ gl' = gl ∧ gr' = gr) 14 [some (.long a), none, some (.long b), none, some (.long u), none, none, none] [] gi gl gr := by
    intro u hu
    refine zA_lload_2 dX4_product_14 ?_
    refine zA_lconst 0 dX4_product_15 (by decide) ?_
    refine zA_lcmp dX4_product_16 ?_
    have j2 : ∀ (v : Int64), v = zabs b → zB_l x g mX4_product 0 sh (fun z gi' gl' gr' => z = fProd a b ∧ gi' = gi ∧ gl' = gl ∧ gr' = gr) 28 [some (.long a), none, some (.long b), none, some (.long u), none, some (.long v), none] [] gi gl gr := by
      intro v hv
      refine zA_lload_6 dX4_product_28 ?_
      refine zA_lconst 0 dX4_product_30 (by decide) ?_
      refine zA_lcmp dX4_product_31 ?_
      refine zA_if_ne 37 dX4_product_32 (by decide) (fun h => ?_) (fun h => ?_)
      · refine zA_lload_4 dX4_product_37 ?_
        refine zA_ldc2 kX4_70 dX4_product_39 ?_
        refine zA_lload_6 dX4_product_42 ?_
        refine zA_ldiv dX4_product_44 (fun e => h (by rw [e]; exact lg_cmp_self 0)) ?_
        refine zA_lcmp dX4_product_45 ?_
        refine zA_if_le 55 dX4_product_46 (by decide) (fun h1 => ?_) (fun h1 => ?_)
        · refine zA_lload_0 dX4_product_55 ?_
          refine zA_lload_2 dX4_product_56 ?_
          refine zA_lmul dX4_product_57 ?_
          exact zB_lret rfl dX4_product_58 (⟨by unfold fProd; rw [← hu, ← hv, if_neg h, if_pos h1], rfl, rfl, rfl⟩)
        · refine zA_ldc2 kX4_64 dX4_product_49 ?_
          refine zA_goto 58 dX4_product_52 (by decide) ?_
          exact zB_lret rfl dX4_product_58 (⟨by unfold fProd; rw [← hu, ← hv, if_neg h, if_neg h1]; rfl, rfl, rfl, rfl⟩)
      · refine zA_lconst 0 dX4_product_35 (by decide) ?_
        exact zB_lret rfl dX4_product_36 (⟨by unfold fProd; rw [← hv, if_pos h], rfl, rfl, rfl⟩)
    refine zA_if_ge 25 dX4_product_17 (by decide) (fun h => ?_) (fun h => ?_)
    · refine zA_lload_2 dX4_product_25 ?_
      refine zA_lstore_6 dX4_product_26 rfl ?_
      exact j2 b (if_pos h).symm
    · refine zA_lload_2 dX4_product_20 ?_
      refine zA_lneg dX4_product_21 ?_
      refine zA_goto 26 dX4_product_22 (by decide) ?_
      refine zA_lstore_6 dX4_product_26 rfl ?_
      exact j2 (-b) (if_neg h).symm
  refine zA_if_ge 11 dX4_product_3 (by decide) (fun h => ?_) (fun h => ?_)
  · refine zA_lload_0 dX4_product_11 ?_
    refine zA_lstore_4 dX4_product_12 rfl ?_
    exact j1 a (if_pos h).symm
  · refine zA_lload_0 dX4_product_6 ?_
    refine zA_lneg dX4_product_7 ?_
    refine zA_goto 12 dX4_product_8 (by decide) ?_
    refine zA_lstore_4 dX4_product_12 rfl ?_
    exact j1 (-a) (if_neg h).symm
def zbL (p : Prop) [Decidable p] : Int64 := if p then 1 else 0
theorem zbL_t {p : Prop} [Decidable p] (h : p) : zbL p = 1 := if_pos h
theorem zbL_f {p : Prop} [Decidable p] (h : ¬ p) : zbL p = 0 := if_neg h
def fJoin (k : Nat) (a b : Int64) : Int64 := match k with
  | 8 => zbL (¬ lg_cmp a 0 = 0 ∨ ¬ lg_cmp b 0 = 0)
  | 9 => zbL (¬ lg_cmp a 0 = 0 ∧ ¬ lg_cmp b 0 = 0)
  | 11 => zbL (¬ 0 ≤ lg_cmp a b)
  | 12 => zbL (¬ 0 < lg_cmp a b)
  | 13 => zbL (lg_cmp a b = 0)
  | 14 => zbL (¬ lg_cmp a b = 0)
  | 15 => zbL (¬ lg_cmp a b < 0)
  | 16 => zbL (¬ lg_cmp a b ≤ 0)
  | 17 => a + b
  | 18 => a - b
  | 19 => fProd a b
  | 20 => if lg_cmp b 0 = 0 then zERR else a / b
  | 21 => if lg_cmp b 0 = 0 then zERR else a - a / b * b
  | _ => zERR
theorem lg_cmp_0 {b : Int64} (h : ¬ lg_cmp b 0 = 0) : ¬ b = 0 := fun e => h (by rw [e]; exact lg_cmp_self 0)
theorem ct_joined (g : zm_G) {sh : List zm_K} (gi : zm_I) (gl : zm_J) (gr : zm_R) {k : Nat} (hk : k < 23) (a b : Int64)  : zC_l g yX4_joined mX4_joined 1 [.int (nI k), .long a, .long b] sh gi gl gr (fun z gi' gl' gr' => z = fJoin k a b ∧ gi' = gi ∧ gl' = gl ∧ gr' = gr) := by
  refine zC_l_of [some (.int (nI k)), some (.long a), none, some (.long b), none] (by decide) rfl rfl (Nat.le_of_ble_eq_true rfl) (fun x => ?_)
  refine zA_iload_0 dX4_joined_0 ?_
  rcases (show k < 8 ∨ 21 < k ∨ k = 8 ∨ k = 9 ∨ k = 10 ∨ k = 11 ∨ k = 12 ∨ k = 13 ∨ k = 14 ∨ k = 15 ∨ k = 16 ∨ k = 17 ∨ k = 18 ∨ k = 19 ∨ k = 20 ∨ k = 21 by omega) with hq | hq | rfl | rfl | rfl | rfl | rfl | rfl | rfl | rfl | rfl | rfl | rfl | rfl | rfl | rfl
  · refine zA_tableOut 226 dX4_joined_1 (by rw [nI_toInt (by omega)]; omega) (by decide) ?_
    refine zA_ldc2 kX4_64 dX4_joined_226 ?_
    exact zB_lret rfl dX4_joined_229 (⟨by rcases (show k = 0 ∨ k = 1 ∨ k = 2 ∨ k = 3 ∨ k = 4 ∨ k = 5 ∨ k = 6 ∨ k = 7 ∨ k = 22 by omega) with rfl | rfl | rfl | rfl | rfl | rfl | rfl | rfl | rfl <;> rfl, rfl, rfl, rfl⟩)
  · refine zA_tableOut 226 dX4_joined_1 (by rw [nI_toInt (by omega)]; omega) (by decide) ?_
    refine zA_ldc2 kX4_64 dX4_joined_226 ?_
    exact zB_lret rfl dX4_joined_229 (⟨by rcases (show k = 0 ∨ k = 1 ∨ k = 2 ∨ k = 3 ∨ k = 4 ∨ k = 5 ∨ k = 6 ∨ k = 7 ∨ k = 22 by omega) with rfl | rfl | rfl | rfl | rfl | rfl | rfl | rfl | rfl <;> rfl, rfl, rfl, rfl⟩)
  · refine zA_tableIn 72 dX4_joined_1 (by decide) (by decide) (off := 71) (by decide) (by decide) ?_
    refine zA_lload_1 dX4_joined_72 ?_
    refine zA_lconst 0 dX4_joined_73 (by decide) ?_
    refine zA_lcmp dX4_joined_74 ?_
    refine zA_if_ne 84 dX4_joined_75 (by decide) (fun h0 => ?_) (fun h0 => ?_)
    · refine zA_lconst 1 dX4_joined_84 (by decide) ?_
      refine zA_goto 89 dX4_joined_85 (by decide) ?_
      exact zB_lret rfl dX4_joined_89 (⟨(zbL_t (by simp_all)).symm, rfl, rfl, rfl⟩)
    · refine zA_lload_3 dX4_joined_78 ?_
      refine zA_lconst 0 dX4_joined_79 (by decide) ?_
      refine zA_lcmp dX4_joined_80 ?_
      refine zA_if_eq 88 dX4_joined_81 (by decide) (fun h1 => ?_) (fun h1 => ?_)
      · refine zA_lconst 0 dX4_joined_88 (by decide) ?_
        exact zB_lret rfl dX4_joined_89 (⟨(zbL_f (by simp_all)).symm, rfl, rfl, rfl⟩)
      · refine zA_lconst 1 dX4_joined_84 (by decide) ?_
        refine zA_goto 89 dX4_joined_85 (by decide) ?_
        exact zB_lret rfl dX4_joined_89 (⟨(zbL_t (by simp_all)).symm, rfl, rfl, rfl⟩)
  · refine zA_tableIn 90 dX4_joined_1 (by decide) (by decide) (off := 89) (by decide) (by decide) ?_
    refine zA_lload_1 dX4_joined_90 ?_
    refine zA_lconst 0 dX4_joined_91 (by decide) ?_
    refine zA_lcmp dX4_joined_92 ?_
    refine zA_if_eq 106 dX4_joined_93 (by decide) (fun h0 => ?_) (fun h0 => ?_)
    · refine zA_lconst 0 dX4_joined_106 (by decide) ?_
      exact zB_lret rfl dX4_joined_107 (⟨(zbL_f (by simp_all)).symm, rfl, rfl, rfl⟩)
    · refine zA_lload_3 dX4_joined_96 ?_
      refine zA_lconst 0 dX4_joined_97 (by decide) ?_
      refine zA_lcmp dX4_joined_98 ?_
      refine zA_if_eq 106 dX4_joined_99 (by decide) (fun h1 => ?_) (fun h1 => ?_)
      · refine zA_lconst 0 dX4_joined_106 (by decide) ?_
        exact zB_lret rfl dX4_joined_107 (⟨(zbL_f (by simp_all)).symm, rfl, rfl, rfl⟩)
      · refine zA_lconst 1 dX4_joined_102 (by decide) ?_
        refine zA_goto 107 dX4_joined_103 (by decide) ?_
        exact zB_lret rfl dX4_joined_107 (⟨(zbL_t (by simp_all)).symm, rfl, rfl, rfl⟩)
  · refine zA_tableIn 226 dX4_joined_1 (by decide) (by decide) (off := 225) (by decide) (by decide) ?_
    refine zA_ldc2 kX4_64 dX4_joined_226 ?_
    exact zB_lret rfl dX4_joined_229 (⟨rfl, rfl, rfl, rfl⟩)
  · refine zA_tableIn 108 dX4_joined_1 (by decide) (by decide) (off := 107) (by decide) (by decide) ?_
    refine zA_lload_1 dX4_joined_108 ?_
    refine zA_lload_3 dX4_joined_109 ?_
    refine zA_lcmp dX4_joined_110 ?_
    refine zA_if_ge 118 dX4_joined_111 (by decide) (fun h0 => ?_) (fun h0 => ?_)
    · refine zA_lconst 0 dX4_joined_118 (by decide) ?_
      exact zB_lret rfl dX4_joined_119 (⟨(zbL_f (by simp_all)).symm, rfl, rfl, rfl⟩)
    · refine zA_lconst 1 dX4_joined_114 (by decide) ?_
      refine zA_goto 119 dX4_joined_115 (by decide) ?_
      exact zB_lret rfl dX4_joined_119 (⟨(zbL_t (by simp_all)).symm, rfl, rfl, rfl⟩)
  · refine zA_tableIn 120 dX4_joined_1 (by decide) (by decide) (off := 119) (by decide) (by decide) ?_
    refine zA_lload_1 dX4_joined_120 ?_
    refine zA_lload_3 dX4_joined_121 ?_
    refine zA_lcmp dX4_joined_122 ?_
    refine zA_if_gt 130 dX4_joined_123 (by decide) (fun h0 => ?_) (fun h0 => ?_)
    · refine zA_lconst 0 dX4_joined_130 (by decide) ?_
      exact zB_lret rfl dX4_joined_131 (⟨(zbL_f (by simp_all)).symm, rfl, rfl, rfl⟩)
    · refine zA_lconst 1 dX4_joined_126 (by decide) ?_
      refine zA_goto 131 dX4_joined_127 (by decide) ?_
      exact zB_lret rfl dX4_joined_131 (⟨(zbL_t (by simp_all)).symm, rfl, rfl, rfl⟩)
  · refine zA_tableIn 132 dX4_joined_1 (by decide) (by decide) (off := 131) (by decide) (by decide) ?_
    refine zA_lload_1 dX4_joined_132 ?_
    refine zA_lload_3 dX4_joined_133 ?_
    refine zA_lcmp dX4_joined_134 ?_
    refine zA_if_ne 142 dX4_joined_135 (by decide) (fun h0 => ?_) (fun h0 => ?_)
    · refine zA_lconst 0 dX4_joined_142 (by decide) ?_
      exact zB_lret rfl dX4_joined_143 (⟨(zbL_f (by simp_all)).symm, rfl, rfl, rfl⟩)
    · refine zA_lconst 1 dX4_joined_138 (by decide) ?_
      refine zA_goto 143 dX4_joined_139 (by decide) ?_
      exact zB_lret rfl dX4_joined_143 (⟨(zbL_t (by simp_all)).symm, rfl, rfl, rfl⟩)
  · refine zA_tableIn 144 dX4_joined_1 (by decide) (by decide) (off := 143) (by decide) (by decide) ?_
    refine zA_lload_1 dX4_joined_144 ?_
    refine zA_lload_3 dX4_joined_145 ?_
    refine zA_lcmp dX4_joined_146 ?_
    refine zA_if_eq 154 dX4_joined_147 (by decide) (fun h0 => ?_) (fun h0 => ?_)
    · refine zA_lconst 0 dX4_joined_154 (by decide) ?_
      exact zB_lret rfl dX4_joined_155 (⟨(zbL_f (by simp_all)).symm, rfl, rfl, rfl⟩)
    · refine zA_lconst 1 dX4_joined_150 (by decide) ?_
      refine zA_goto 155 dX4_joined_151 (by decide) ?_
      exact zB_lret rfl dX4_joined_155 (⟨(zbL_t (by simp_all)).symm, rfl, rfl, rfl⟩)
  · refine zA_tableIn 156 dX4_joined_1 (by decide) (by decide) (off := 155) (by decide) (by decide) ?_
    refine zA_lload_1 dX4_joined_156 ?_
    refine zA_lload_3 dX4_joined_157 ?_
    refine zA_lcmp dX4_joined_158 ?_
    refine zA_if_lt 166 dX4_joined_159 (by decide) (fun h0 => ?_) (fun h0 => ?_)
    · refine zA_lconst 0 dX4_joined_166 (by decide) ?_
      exact zB_lret rfl dX4_joined_167 (⟨(zbL_f (by simp_all)).symm, rfl, rfl, rfl⟩)
    · refine zA_lconst 1 dX4_joined_162 (by decide) ?_
      refine zA_goto 167 dX4_joined_163 (by decide) ?_
      exact zB_lret rfl dX4_joined_167 (⟨(zbL_t (by simp_all)).symm, rfl, rfl, rfl⟩)
  · refine zA_tableIn 168 dX4_joined_1 (by decide) (by decide) (off := 167) (by decide) (by decide) ?_
    refine zA_lload_1 dX4_joined_168 ?_
    refine zA_lload_3 dX4_joined_169 ?_
    refine zA_lcmp dX4_joined_170 ?_
    refine zA_if_le 178 dX4_joined_171 (by decide) (fun h0 => ?_) (fun h0 => ?_)
    · refine zA_lconst 0 dX4_joined_178 (by decide) ?_
      exact zB_lret rfl dX4_joined_179 (⟨(zbL_f (by simp_all)).symm, rfl, rfl, rfl⟩)
    · refine zA_lconst 1 dX4_joined_174 (by decide) ?_
      refine zA_goto 179 dX4_joined_175 (by decide) ?_
      exact zB_lret rfl dX4_joined_179 (⟨(zbL_t (by simp_all)).symm, rfl, rfl, rfl⟩)
  · refine zA_tableIn 180 dX4_joined_1 (by decide) (by decide) (off := 179) (by decide) (by decide) ?_
    refine zA_lload_1 dX4_joined_180 ?_
    refine zA_lload_3 dX4_joined_181 ?_
    refine zA_ladd dX4_joined_182 ?_
    exact zB_lret rfl dX4_joined_183 (⟨rfl, rfl, rfl, rfl⟩)
  · refine zA_tableIn 184 dX4_joined_1 (by decide) (by decide) (off := 183) (by decide) (by decide) ?_
    refine zA_lload_1 dX4_joined_184 ?_
    refine zA_lload_3 dX4_joined_185 ?_
    refine zA_lsub dX4_joined_186 ?_
    exact zB_lret rfl dX4_joined_187 (⟨rfl, rfl, rfl, rfl⟩)
  · refine zA_tableIn 188 dX4_joined_1 (by decide) (by decide) (off := 187) (by decide) (by decide) ?_
    refine zA_lload_1 dX4_joined_188 ?_
    refine zA_lload_3 dX4_joined_189 ?_
    refine zA_cSl (ct_product g _ _ _ _ _) calX4_product stX4_product lX4_74 dX4_joined_190 (by decide) (by simp [Value.category]) rfl (Nat.le_refl _) (Nat.le_refl _) (fun zz gi' gl' gr' ⟨hz, e1, e2, e3⟩ => ?_)
    rw [hz, e1, e2, e3]
    clear hz e1 e2 e3
    exact zB_lret rfl dX4_joined_193 (⟨rfl, rfl, rfl, rfl⟩)
  · refine zA_tableIn 194 dX4_joined_1 (by decide) (by decide) (off := 193) (by decide) (by decide) ?_
    refine zA_lload_3 dX4_joined_194 ?_
    refine zA_lconst 0 dX4_joined_195 (by decide) ?_
    refine zA_lcmp dX4_joined_196 ?_
    refine zA_if_ne 206 dX4_joined_197 (by decide) (fun h => ?_) (fun h => ?_)
    · refine zA_lload_1 dX4_joined_206 ?_
      refine zA_lload_3 dX4_joined_207 ?_
      refine zA_ldiv dX4_joined_208 (lg_cmp_0 h) ?_
      exact zB_lret rfl dX4_joined_209 (⟨(if_neg h).symm, rfl, rfl, rfl⟩)
    · refine zA_ldc2 kX4_64 dX4_joined_200 ?_
      refine zA_goto 209 dX4_joined_203 (by decide) ?_
      exact zB_lret rfl dX4_joined_209 (⟨(if_pos h).symm, rfl, rfl, rfl⟩)
  · refine zA_tableIn 210 dX4_joined_1 (by decide) (by decide) (off := 209) (by decide) (by decide) ?_
    refine zA_lload_3 dX4_joined_210 ?_
    refine zA_lconst 0 dX4_joined_211 (by decide) ?_
    refine zA_lcmp dX4_joined_212 ?_
    refine zA_if_ne 222 dX4_joined_213 (by decide) (fun h => ?_) (fun h => ?_)
    · refine zA_lload_1 dX4_joined_222 ?_
      refine zA_lload_3 dX4_joined_223 ?_
      refine zA_lrem dX4_joined_224 (lg_cmp_0 h) ?_
      exact zB_lret rfl dX4_joined_225 (⟨(if_neg h).symm, rfl, rfl, rfl⟩)
    · refine zA_ldc2 kX4_64 dX4_joined_216 ?_
      refine zA_goto 225 dX4_joined_219 (by decide) ?_
      exact zB_lret rfl dX4_joined_225 (⟨(if_pos h).symm, rfl, rfl, rfl⟩)
