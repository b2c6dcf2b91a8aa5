/-! ===== the reference's tokens ===== -/
def zWl : List Int32 := [110, 105, 103, 104, 116, 32, 102, 117, 101, 108, 32, 97, 108, 108, 111, 119, 32, 112, 114, 105, 99, 101, 32, 114, 101, 110, 116, 101, 114, 32, 112, 97, 114, 105, 115, 104, 32, 101, 103, 103, 115, 32, 111, 114, 32, 97, 110, 100, 32, 110, 111, 116, 32, 112, 101, 111, 112, 108, 101, 32, 115, 101, 97, 116, 115, 32, 115, 116, 114, 105, 99, 116, 32, 99, 104, 105, 108, 100, 32, 108, 105, 107, 101, 32, 103, 101, 110, 114, 101, 32, 97, 103, 101, 32, 109, 105, 110, 117, 116, 101, 115, 32, 63, 32, 119, 111, 114, 110, 32, 104, 101, 97, 100, 115, 32]
/-- the reference's words stand in cell 106 -/
def zWs (gi : zm_I) : Prop := ∀ j, j < 115 → gi 106 j = zWl.getD j 0
def zWp (k : Nat) : Nat := [0, 6, 11, 17, 23, 30, 37, 42, 45, 49, 53, 60, 66, 73, 79, 84, 90, 94, 102, 104, 109, 115].getD k 115
def zWn (k : Nat) : Nat := [5, 4, 5, 5, 6, 6, 4, 2, 3, 3, 6, 5, 6, 5, 4, 5, 3, 7, 1, 4, 5].getD k 0
theorem zWp_s : ∀ k, k < 21 → zWp (k + 1) = zWp k + zWn k + 1 := by decide
theorem zWp_l : ∀ k, k < 21 → zWp k + zWn k < 115 := by decide
theorem zWp_e : ∀ k, k < 21 → zWl.getD (zWp k + zWn k) 0 = nI 32 := by decide +kernel
theorem zWp_n : ∀ k, k < 21 → ∀ j, j < zWn k → ¬ zWl.getD (zWp k + j) 0 = nI 32 := by decide +kernel
/-- the token from b to e is word k -/
def zWm (r : Nat → Int32) (b e k : Nat) : Prop := zWn k = e - b ∧ ∀ j, j < zWn k → zWl.getD (zWp k + j) 0 = r (b + j)
def rTk (gi : zm_I) (pl nx kd wh : Int32) : zm_I := fun a j => if a = 87 then (if j = 35 then pl else if j = 32 then nx else if j = 33 then kd else if j = 34 then wh else gi 87 j) else gi a j
theorem rTk_nq (gi : zm_I) (pl nx kd wh : Int32) {a : Nat} (h : a ≠ 87) : rTk gi pl nx kd wh a = gi a := funext fun j => if_neg h
theorem rTk_j (gi : zm_I) (pl nx kd wh : Int32) {j : Nat} (h1 : j ≠ 35) (h2 : j ≠ 32) (h3 : j ≠ 33) (h4 : j ≠ 34) : rTk gi pl nx kd wh 87 j = gi 87 j := by
  unfold rTk
  rw [if_pos rfl, if_neg h1, if_neg h2, if_neg h3, if_neg h4]
theorem rTk_32 (gi : zm_I) (pl nx kd wh v : Int32) : zs (rTk gi pl nx kd wh) 87 32 v = rTk gi pl v kd wh := funext fun a => funext fun j => by
  rw [zs_at]
  unfold rTk
  by_cases h : a = 87
  · by_cases h2 : j = 32
    · simp [h, h2]
    · simp [h, h2]
  · simp [h]
theorem rTk_33 (gi : zm_I) (pl nx kd wh v : Int32) : zs (rTk gi pl nx kd wh) 87 33 v = rTk gi pl nx v wh := funext fun a => funext fun j => by
  rw [zs_at]
  unfold rTk
  by_cases h : a = 87
  · by_cases h2 : j = 33
    · simp [h, h2]
    · simp [h, h2]
  · simp [h]
theorem rTk_34 (gi : zm_I) (pl nx kd wh v : Int32) : zs (rTk gi pl nx kd wh) 87 34 v = rTk gi pl nx kd v := funext fun a => funext fun j => by
  rw [zs_at]
  unfold rTk
  by_cases h : a = 87
  · by_cases h2 : j = 34
    · simp [h, h2]
    · simp [h, h2]
  · simp [h]
theorem rTk_35 (gi : zm_I) (pl nx kd wh v : Int32) : zs (rTk gi pl nx kd wh) 87 35 v = rTk gi v nx kd wh := funext fun a => funext fun j => by
  rw [zs_at]
  unfold rTk
  by_cases h : a = 87
  · by_cases h2 : j = 35
    · simp [h, h2]
    · simp [h, h2]
  · simp [h]
theorem rTk_id (gi : zm_I) : rTk gi (gi 87 35) (gi 87 32) (gi 87 33) (gi 87 34) = gi := funext fun a => funext fun j => by
  unfold rTk
  by_cases h : a = 87
  · subst h
    rw [if_pos rfl]
    by_cases h1 : j = 35
    · rw [if_pos h1, h1]
    · rw [if_neg h1]
      by_cases h2 : j = 32
      · rw [if_pos h2, h2]
      · rw [if_neg h2]
        by_cases h3 : j = 33
        · rw [if_pos h3, h3]
        · rw [if_neg h3]
          by_cases h4 : j = 34
          · rw [if_pos h4, h4]
          · rw [if_neg h4]
  · rw [if_neg h]
theorem ct_risSmall (g : zm_G) (gi : zm_I) (gl : zm_J) (r : Nat) {n : Nat} (hn : gi 87 31 = nI n) (hn5 : n ≤ 500) {k : Nat} (hk : k < 2 ^ 30)  : zC_i g yX11_isSmall mX11_isSmall 0 [.ref 87, .int (nI k)] zSH gi gl (zRT r) (fun z gi' gl' gr' => z = zb (k < n ∧ fLet (gi 88 k)) ∧ gi' = gi ∧ gl' = gl ∧ gr' = zRT r) := by
  refine zC_i_of [some (.ref 87), some (.int (nI k))] (by decide) rfl rfl (Nat.le_of_ble_eq_true rfl) (fun x => ?_)
  refine zA_iload_1 dX11_isSmall_0 ?_
  refine zA_aload_0 dX11_isSmall_1 ?_
  refine zA_getI (v := (nI n)) sh_87 fX11_221 dX11_isSmall_2 rfl hn ?_
  refine zA_icmp_geN 34 dX11_isSmall_5 (by decide) (by omega) (by omega) (fun h0 => ?_) (fun h0 => ?_)
  · refine zA_iconst (nI 0) dX11_isSmall_34 ic_0 ?_
    exact zB_zret rfl dX11_isSmall_35 (by decide) (⟨(zb_f (fun q => absurd q.1 (by omega))).symm, rfl, rfl, rfl⟩)
  · refine zA_aload_0 dX11_isSmall_8 ?_
    refine zA_getR sh_87 fX11_7 dX11_isSmall_9 rfl (rt_87_0 _) ?_
    refine zA_iload_1 dX11_isSmall_12 ?_
    refine zA_iald (v := (gi 88 k)) k sh_88 dX11_isSmall_13 rfl (by omega) (by decide) rfl ?_
    refine zA_bipush (nI 97) dX11_isSmall_14 bc_97 ?_
    refine zA_icmp_lt 34 dX11_isSmall_16 (by decide) (fun h1 => ?_) (fun h1 => ?_)
    · refine zA_iconst (nI 0) dX11_isSmall_34 ic_0 ?_
      exact zB_zret rfl dX11_isSmall_35 (by decide) (⟨(zb_f (fun q => q.2.1 h1)).symm, rfl, rfl, rfl⟩)
    · refine zA_aload_0 dX11_isSmall_19 ?_
      refine zA_getR sh_87 fX11_7 dX11_isSmall_20 rfl (rt_87_0 _) ?_
      refine zA_iload_1 dX11_isSmall_23 ?_
      refine zA_iald (v := (gi 88 k)) k sh_88 dX11_isSmall_24 rfl (by omega) (by decide) rfl ?_
      refine zA_bipush (nI 122) dX11_isSmall_25 bc_122 ?_
      refine zA_icmp_gt 34 dX11_isSmall_27 (by decide) (fun h2 => ?_) (fun h2 => ?_)
      · refine zA_iconst (nI 0) dX11_isSmall_34 ic_0 ?_
        exact zB_zret rfl dX11_isSmall_35 (by decide) (⟨(zb_f (fun q => q.2.2 h2)).symm, rfl, rfl, rfl⟩)
      · refine zA_iconst (nI 1) dX11_isSmall_30 ic_1 ?_
        refine zA_goto 35 dX11_isSmall_31 (by decide) ?_
        exact zB_zret rfl dX11_isSmall_35 (by decide) (⟨(zb_t ⟨h0, h1, h2⟩).symm, rfl, rfl, rfl⟩)
theorem ct_risDigit (g : zm_G) (gi : zm_I) (gl : zm_J) (r : Nat) {n : Nat} (hn : gi 87 31 = nI n) (hn5 : n ≤ 500) {k : Nat} (hk : k < 2 ^ 30)  : zC_i g yX11_isDigit mX11_isDigit 0 [.ref 87, .int (nI k)] zSH gi gl (zRT r) (fun z gi' gl' gr' => z = zb (k < n ∧ fDig (gi 88 k)) ∧ gi' = gi ∧ gl' = gl ∧ gr' = zRT r) := by
  refine zC_i_of [some (.ref 87), some (.int (nI k))] (by decide) rfl rfl (Nat.le_of_ble_eq_true rfl) (fun x => ?_)
  refine zA_iload_1 dX11_isDigit_0 ?_
  refine zA_aload_0 dX11_isDigit_1 ?_
  refine zA_getI (v := (nI n)) sh_87 fX11_221 dX11_isDigit_2 rfl hn ?_
  refine zA_icmp_geN 34 dX11_isDigit_5 (by decide) (by omega) (by omega) (fun h0 => ?_) (fun h0 => ?_)
  · refine zA_iconst (nI 0) dX11_isDigit_34 ic_0 ?_
    exact zB_zret rfl dX11_isDigit_35 (by decide) (⟨(zb_f (fun q => absurd q.1 (by omega))).symm, rfl, rfl, rfl⟩)
  · refine zA_aload_0 dX11_isDigit_8 ?_
    refine zA_getR sh_87 fX11_7 dX11_isDigit_9 rfl (rt_87_0 _) ?_
    refine zA_iload_1 dX11_isDigit_12 ?_
    refine zA_iald (v := (gi 88 k)) k sh_88 dX11_isDigit_13 rfl (by omega) (by decide) rfl ?_
    refine zA_bipush (nI 48) dX11_isDigit_14 bc_48 ?_
    refine zA_icmp_lt 34 dX11_isDigit_16 (by decide) (fun h1 => ?_) (fun h1 => ?_)
    · refine zA_iconst (nI 0) dX11_isDigit_34 ic_0 ?_
      exact zB_zret rfl dX11_isDigit_35 (by decide) (⟨(zb_f (fun q => q.2.1 h1)).symm, rfl, rfl, rfl⟩)
    · refine zA_aload_0 dX11_isDigit_19 ?_
      refine zA_getR sh_87 fX11_7 dX11_isDigit_20 rfl (rt_87_0 _) ?_
      refine zA_iload_1 dX11_isDigit_23 ?_
      refine zA_iald (v := (gi 88 k)) k sh_88 dX11_isDigit_24 rfl (by omega) (by decide) rfl ?_
      refine zA_bipush (nI 57) dX11_isDigit_25 bc_57 ?_
      refine zA_icmp_gt 34 dX11_isDigit_27 (by decide) (fun h2 => ?_) (fun h2 => ?_)
      · refine zA_iconst (nI 0) dX11_isDigit_34 ic_0 ?_
        exact zB_zret rfl dX11_isDigit_35 (by decide) (⟨(zb_f (fun q => q.2.2 h2)).symm, rfl, rfl, rfl⟩)
      · refine zA_iconst (nI 1) dX11_isDigit_30 ic_1 ?_
        refine zA_goto 35 dX11_isDigit_31 (by decide) ?_
        exact zB_zret rfl dX11_isDigit_35 (by decide) (⟨(zb_t ⟨h0, h1, h2⟩).symm, rfl, rfl, rfl⟩)
theorem ct_rIsAt (g : zm_G) (gi : zm_I) (gl : zm_J) (r : Nat) {n : Nat} (hn : gi 87 31 = nI n) (hn5 : n ≤ 500) {k : Nat} (hk : k < 2 ^ 30) (c : Int32)  : zC_i g yX11_isAt mX11_isAt 0 [.ref 87, .int (nI k), .int c] zSH gi gl (zRT r) (fun z gi' gl' gr' => z = zb (k < n ∧ gi 88 k = c) ∧ gi' = gi ∧ gl' = gl ∧ gr' = zRT r) := by
  refine zC_i_of [some (.ref 87), some (.int (nI k)), some (.int c)] (by decide) rfl rfl (Nat.le_of_ble_eq_true rfl) (fun x => ?_)
  refine zA_iload_1 dX11_isAt_0 ?_
  refine zA_aload_0 dX11_isAt_1 ?_
  refine zA_getI (v := (nI n)) sh_87 fX11_221 dX11_isAt_2 rfl hn ?_
  refine zA_icmp_geN 22 dX11_isAt_5 (by decide) (by omega) (by omega) (fun h0 => ?_) (fun h0 => ?_)
  · refine zA_iconst (nI 0) dX11_isAt_22 ic_0 ?_
    exact zB_zret rfl dX11_isAt_23 (by decide) (⟨(zb_f (fun q => absurd q.1 (by omega))).symm, rfl, rfl, rfl⟩)
  · refine zA_aload_0 dX11_isAt_8 ?_
    refine zA_getR sh_87 fX11_7 dX11_isAt_9 rfl (rt_87_0 _) ?_
    refine zA_iload_1 dX11_isAt_12 ?_
    refine zA_iald (v := (gi 88 k)) k sh_88 dX11_isAt_13 rfl (by omega) (by decide) rfl ?_
    refine zA_iload_2 dX11_isAt_14 ?_
    refine zA_icmp_ne 22 dX11_isAt_15 (by decide) (fun h1 => ?_) (fun h1 => ?_)
    · refine zA_iconst (nI 0) dX11_isAt_22 ic_0 ?_
      exact zB_zret rfl dX11_isAt_23 (by decide) (⟨(zb_f (fun q => h1 q.2)).symm, rfl, rfl, rfl⟩)
    · refine zA_iconst (nI 1) dX11_isAt_18 ic_1 ?_
      refine zA_goto 23 dX11_isAt_19 (by decide) ?_
      exact zB_zret rfl dX11_isAt_23 (by decide) (⟨(zb_t ⟨h0, h1⟩).symm, rfl, rfl, rfl⟩)
def rSg (r : Nat → Int32) (n x : Nat) (c : Int32) : Int32 :=
  if c = nI 60 then (if x < n ∧ r x = nI 61 then nI 2 else if x < n ∧ r x = nI 62 then nI 4 else nI 1)
  else if c = nI 62 then (if x < n ∧ r x = nI 61 then nI 5 else nI 6)
  else if c = nI 61 then nI 3 else if c = nI 43 then nI 7 else if c = nI 45 then nI 8 else if c = nI 42 then nI 9 else if c = nI 47 then nI 10 else if c = nI 37 then nI 11 else if c = nI 59 then c else if c = nI 40 then c else if c = nI 41 then c else -1
theorem ct_rSignOf (g : zm_G) (gi : zm_I) (gl : zm_J) (r : Nat) {n : Nat} (hn : gi 87 31 = nI n) (hn5 : n ≤ 500) {k : Nat} (hk : gi 87 32 = nI k) (hk2 : k < 2 ^ 30) (c : Int32)  : zC_i g yX11_signOf mX11_signOf 1 [.ref 87, .int c] zSH gi gl (zRT r) (fun z gi' gl' gr' => z = rSg (gi 88) n k c ∧ gi' = gi ∧ gl' = gl ∧ gr' = zRT r) := by
  refine zC_i_of [some (.ref 87), some (.int c)] (by decide) rfl rfl (Nat.le_of_ble_eq_true rfl) (fun x => ?_)
  refine zA_iload_1 dX11_signOf_0 ?_
  refine zA_bipush (nI 60) dX11_signOf_1 bc_60 ?_
  refine zA_icmp_ne 42 dX11_signOf_3 (by decide) (fun c1 => ?_) (fun c1 => ?_)
  · refine zA_iload_1 dX11_signOf_42 ?_
    refine zA_bipush (nI 62) dX11_signOf_43 bc_62 ?_
    refine zA_icmp_ne 68 dX11_signOf_45 (by decide) (fun c2 => ?_) (fun c2 => ?_)
    · refine zA_iload_1 dX11_signOf_68 ?_
      refine zA_bipush (nI 61) dX11_signOf_69 bc_61 ?_
      refine zA_icmp_ne 78 dX11_signOf_71 (by decide) (fun c3 => ?_) (fun c3 => ?_)
      · refine zA_iload_1 dX11_signOf_78 ?_
        refine zA_bipush (nI 43) dX11_signOf_79 bc_43 ?_
        refine zA_icmp_ne 89 dX11_signOf_81 (by decide) (fun c4 => ?_) (fun c4 => ?_)
        · refine zA_iload_1 dX11_signOf_89 ?_
          refine zA_bipush (nI 45) dX11_signOf_90 bc_45 ?_
          refine zA_icmp_ne 100 dX11_signOf_92 (by decide) (fun c5 => ?_) (fun c5 => ?_)
          · refine zA_iload_1 dX11_signOf_100 ?_
            refine zA_bipush (nI 42) dX11_signOf_101 bc_42 ?_
            refine zA_icmp_ne 111 dX11_signOf_103 (by decide) (fun c6 => ?_) (fun c6 => ?_)
            · refine zA_iload_1 dX11_signOf_111 ?_
              refine zA_bipush (nI 47) dX11_signOf_112 bc_47 ?_
              refine zA_icmp_ne 122 dX11_signOf_114 (by decide) (fun c7 => ?_) (fun c7 => ?_)
              · refine zA_iload_1 dX11_signOf_122 ?_
                refine zA_bipush (nI 37) dX11_signOf_123 bc_37 ?_
                refine zA_icmp_ne 133 dX11_signOf_125 (by decide) (fun c8 => ?_) (fun c8 => ?_)
                · refine zA_iload_1 dX11_signOf_133 ?_
                  refine zA_bipush (nI 59) dX11_signOf_134 bc_59 ?_
                  refine zA_icmp_eq 151 dX11_signOf_136 (by decide) (fun c9 => ?_) (fun c9 => ?_)
                  · refine zA_iload_1 dX11_signOf_151 ?_
                    refine zA_goto 156 dX11_signOf_152 (by decide) ?_
                    exact zB_iret rfl dX11_signOf_156 (⟨by unfold rSg; rw [if_neg c1, if_neg c2, if_neg c3, if_neg c4, if_neg c5, if_neg c6, if_neg c7, if_neg c8, if_pos c9], rfl, rfl, rfl⟩)
                  · refine zA_iload_1 dX11_signOf_139 ?_
                    refine zA_bipush (nI 40) dX11_signOf_140 bc_40 ?_
                    refine zA_icmp_eq 151 dX11_signOf_142 (by decide) (fun c10 => ?_) (fun c10 => ?_)
                    · refine zA_iload_1 dX11_signOf_151 ?_
                      refine zA_goto 156 dX11_signOf_152 (by decide) ?_
                      exact zB_iret rfl dX11_signOf_156 (⟨by unfold rSg; rw [if_neg c1, if_neg c2, if_neg c3, if_neg c4, if_neg c5, if_neg c6, if_neg c7, if_neg c8, if_neg c9, if_pos c10], rfl, rfl, rfl⟩)
                    · refine zA_iload_1 dX11_signOf_145 ?_
                      refine zA_bipush (nI 41) dX11_signOf_146 bc_41 ?_
                      refine zA_icmp_ne 155 dX11_signOf_148 (by decide) (fun c11 => ?_) (fun c11 => ?_)
                      · refine zA_iconst (-1) dX11_signOf_155 ic_m1 ?_
                        exact zB_iret rfl dX11_signOf_156 (⟨by unfold rSg; rw [if_neg c1, if_neg c2, if_neg c3, if_neg c4, if_neg c5, if_neg c6, if_neg c7, if_neg c8, if_neg c9, if_neg c10, if_neg c11], rfl, rfl, rfl⟩)
                      · refine zA_iload_1 dX11_signOf_151 ?_
                        refine zA_goto 156 dX11_signOf_152 (by decide) ?_
                        exact zB_iret rfl dX11_signOf_156 (⟨by unfold rSg; rw [if_neg c1, if_neg c2, if_neg c3, if_neg c4, if_neg c5, if_neg c6, if_neg c7, if_neg c8, if_neg c9, if_neg c10, if_pos c11], rfl, rfl, rfl⟩)
                · refine zA_bipush (nI 11) dX11_signOf_128 bc_11 ?_
                  refine zA_goto 156 dX11_signOf_130 (by decide) ?_
                  exact zB_iret rfl dX11_signOf_156 (⟨by unfold rSg; rw [if_neg c1, if_neg c2, if_neg c3, if_neg c4, if_neg c5, if_neg c6, if_neg c7, if_pos c8], rfl, rfl, rfl⟩)
              · refine zA_bipush (nI 10) dX11_signOf_117 bc_10 ?_
                refine zA_goto 156 dX11_signOf_119 (by decide) ?_
                exact zB_iret rfl dX11_signOf_156 (⟨by unfold rSg; rw [if_neg c1, if_neg c2, if_neg c3, if_neg c4, if_neg c5, if_neg c6, if_pos c7], rfl, rfl, rfl⟩)
            · refine zA_bipush (nI 9) dX11_signOf_106 bc_9 ?_
              refine zA_goto 156 dX11_signOf_108 (by decide) ?_
              exact zB_iret rfl dX11_signOf_156 (⟨by unfold rSg; rw [if_neg c1, if_neg c2, if_neg c3, if_neg c4, if_neg c5, if_pos c6], rfl, rfl, rfl⟩)
          · refine zA_bipush (nI 8) dX11_signOf_95 bc_8 ?_
            refine zA_goto 156 dX11_signOf_97 (by decide) ?_
            exact zB_iret rfl dX11_signOf_156 (⟨by unfold rSg; rw [if_neg c1, if_neg c2, if_neg c3, if_neg c4, if_pos c5], rfl, rfl, rfl⟩)
        · refine zA_bipush (nI 7) dX11_signOf_84 bc_7 ?_
          refine zA_goto 156 dX11_signOf_86 (by decide) ?_
          exact zB_iret rfl dX11_signOf_156 (⟨by unfold rSg; rw [if_neg c1, if_neg c2, if_neg c3, if_pos c4], rfl, rfl, rfl⟩)
      · refine zA_iconst (nI 3) dX11_signOf_74 ic_3 ?_
        refine zA_goto 156 dX11_signOf_75 (by decide) ?_
        exact zB_iret rfl dX11_signOf_156 (⟨by unfold rSg; rw [if_neg c1, if_neg c2, if_pos c3], rfl, rfl, rfl⟩)
    · refine zA_aload_0 dX11_signOf_48 ?_
      refine zA_aload_0 dX11_signOf_49 ?_
      refine zA_getI (v := (nI k)) sh_87 fX11_224 dX11_signOf_50 rfl hk ?_
      refine zA_bipush (nI 61) dX11_signOf_53 bc_61 ?_
      refine zA_cVi (ct_rIsAt g gi gl r hn hn5 hk2 (nI 61)) calX11_isAt stX11_isAt lX11_227 dX11_signOf_55 (by decide) (by simp [Value.category]) rfl (Nat.le_refl _) (Nat.le_refl _) sh_87 rfl (fun zz gi' gl' gr' ⟨hz, e1, e2, e3⟩ => ?_)
      rw [hz, e1, e2, e3]
      clear hz e1 e2 e3
      refine zA_if_eqB 65 dX11_signOf_58 (by decide) (fun d1 => ?_) (fun d1 => ?_)
      · refine zA_bipush (nI 6) dX11_signOf_65 bc_6 ?_
        exact zB_iret rfl dX11_signOf_67 (⟨by unfold rSg; rw [if_neg c1, if_pos c2, if_neg d1], rfl, rfl, rfl⟩)
      · refine zA_iconst (nI 5) dX11_signOf_61 ic_5 ?_
        refine zA_goto 67 dX11_signOf_62 (by decide) ?_
        exact zB_iret rfl dX11_signOf_67 (⟨by unfold rSg; rw [if_neg c1, if_pos c2, if_pos d1], rfl, rfl, rfl⟩)
  · refine zA_aload_0 dX11_signOf_6 ?_
    refine zA_aload_0 dX11_signOf_7 ?_
    refine zA_getI (v := (nI k)) sh_87 fX11_224 dX11_signOf_8 rfl hk ?_
    refine zA_bipush (nI 61) dX11_signOf_11 bc_61 ?_
    refine zA_cVi (ct_rIsAt g gi gl r hn hn5 hk2 (nI 61)) calX11_isAt stX11_isAt lX11_227 dX11_signOf_13 (by decide) (by simp [Value.category]) rfl (Nat.le_refl _) (Nat.le_refl _) sh_87 rfl (fun zz gi' gl' gr' ⟨hz, e1, e2, e3⟩ => ?_)
    rw [hz, e1, e2, e3]
    clear hz e1 e2 e3
    refine zA_if_eqB 23 dX11_signOf_16 (by decide) (fun d1 => ?_) (fun d1 => ?_)
    · refine zA_aload_0 dX11_signOf_23 ?_
      refine zA_aload_0 dX11_signOf_24 ?_
      refine zA_getI (v := (nI k)) sh_87 fX11_224 dX11_signOf_25 rfl hk ?_
      refine zA_bipush (nI 62) dX11_signOf_28 bc_62 ?_
      refine zA_cVi (ct_rIsAt g gi gl r hn hn5 hk2 (nI 62)) calX11_isAt stX11_isAt lX11_227 dX11_signOf_30 (by decide) (by simp [Value.category]) rfl (Nat.le_refl _) (Nat.le_refl _) sh_87 rfl (fun zz gi' gl' gr' ⟨hz, e1, e2, e3⟩ => ?_)
      rw [hz, e1, e2, e3]
      clear hz e1 e2 e3
      refine zA_if_eqB 40 dX11_signOf_33 (by decide) (fun d2 => ?_) (fun d2 => ?_)
      · refine zA_iconst (nI 1) dX11_signOf_40 ic_1 ?_
        exact zB_iret rfl dX11_signOf_41 (⟨by unfold rSg; rw [if_pos c1, if_neg d1, if_neg d2], rfl, rfl, rfl⟩)
      · refine zA_iconst (nI 4) dX11_signOf_36 ic_4 ?_
        refine zA_goto 41 dX11_signOf_37 (by decide) ?_
        exact zB_iret rfl dX11_signOf_41 (⟨by unfold rSg; rw [if_pos c1, if_neg d1, if_pos d2], rfl, rfl, rfl⟩)
    · refine zA_iconst (nI 2) dX11_signOf_19 ic_2 ?_
      refine zA_goto 41 dX11_signOf_20 (by decide) ?_
      exact zB_iret rfl dX11_signOf_41 (⟨by unfold rSg; rw [if_pos c1, if_pos d1], rfl, rfl, rfl⟩)
/-- the number of the word, or -1 -/
def zWa (r : Nat → Int32) (b e : Nat) (z : Int32) : Prop := (∃ k, k < 21 ∧ z = nI k ∧ zWm r b e k ∧ ∀ j, j < k → ¬ zWm r b e j) ∨ (z = -1 ∧ ∀ j, j < 21 → ¬ zWm r b e j)
theorem ct_rWordAt (g : zm_G) (gi : zm_I) (gl : zm_J) (r : Nat) (hW : zWs gi) {b e : Nat} (hbe : b ≤ e) (he : e ≤ 500)  : zC_i g yX11_wordAt mX11_wordAt 0 [.ref 87, .int (nI b), .int (nI e)] zSH gi gl (zRT r) (fun z gi' gl' gr' => zWa (gi 88) b e z ∧ gi' = gi ∧ gl' = gl ∧ gr' = zRT r) := by
  refine zC_i_of [some (.ref 87), some (.int (nI b)), some (.int (nI e)), none, none, none, none, none] (by decide) rfl rfl (Nat.le_of_ble_eq_true rfl) (fun x => ?_)
  refine zA_iconst (nI 0) dX11_wordAt_0 ic_0 ?_
  refine zA_istore_3 dX11_wordAt_1 rfl ?_
  refine zA_iconst (nI 0) dX11_wordAt_2 ic_0 ?_
  refine zA_istore_4 dX11_wordAt_3 rfl ?_
  have out : ∀ (m k : Nat) (l5 l6 l7 : Option Value), k + m = 21 → (∀ j, j < k → ¬ zWm (gi 88) b e j) → zB_i x g mX11_wordAt 0 zSH (fun z gi' gl' gr' => zWa (gi 88) b e z ∧ gi' = gi ∧ gl' = gl ∧ gr' = zRT r) 5 [some (.ref 87), some (.int (nI b)), some (.int (nI e)), some (.int (nI k)), some (.int (nI (zWp k))), l5, l6, l7] [] gi gl (zRT r) := by
    intro m
    induction m with
    | zero =>
      intro k l5 l6 l7 hk hno
      have e21 : k = 21 := by omega
      subst e21
      have hp : zWp 21 = 115 := by decide
      refine zA_iload_4 dX11_wordAt_5 ?_
      refine zA_aload_0 dX11_wordAt_7 ?_
      refine zA_getR sh_87 fX11_65 dX11_wordAt_8 rfl (rt_87_28 _) ?_
      refine zA_alen 0 sh_106 (fun _ => rfl) dX11_wordAt_11 rfl ?_
      refine zA_icmp_geN 126 dX11_wordAt_12 (by decide) (by omega) (by omega) (fun h => ?_) (fun h => ?_)
      · refine zA_iconst (-1) dX11_wordAt_126 ic_m1 ?_
        exact zB_iret rfl dX11_wordAt_127 (⟨Or.inr ⟨rfl, hno⟩, rfl, rfl, rfl⟩)
      · exact absurd h (by omega)
    | succ m ih =>
      intro k l5 l6 l7 hk hno
      have hk21 : k < 21 := by omega
      have w1 := zWp_s k hk21
      have w2 := zWp_l k hk21
      have w3 := zWp_e k hk21
      have w4 := zWp_n k hk21
      have cmp : ∀ (m i : Nat) (sm : Int32), i + m = zWn k → ((sm = nI 1 ∧ zWn k = e - b ∧ ∀ j, j < i → zWl.getD (zWp k + j) 0 = gi 88 (b + j)) ∨ (sm = nI 0 ∧ ¬ zWm (gi 88) b e k)) → zB_i x g mX11_wordAt 0 zSH (fun z gi' gl' gr' => zWa (gi 88) b e z ∧ gi' = gi ∧ gl' = gl ∧ gr' = zRT r) 57 [some (.ref 87), some (.int (nI b)), some (.int (nI e)), some (.int (nI k)), some (.int (nI (zWp k))), some (.int (nI (zWn k))), some (.int sm), some (.int (nI i))] [] gi gl (zRT r) := by
        have fin1 : (∀ j, j < zWn k → zWl.getD (zWp k + j) 0 = gi 88 (b + j)) → zWn k = e - b → zWm (gi 88) b e k := fun h1 h2 => ⟨h2, h1⟩
        have endY : ∀ (i : Nat), zWm (gi 88) b e k → zB_i x g mX11_wordAt 0 zSH (fun z gi' gl' gr' => zWa (gi 88) b e z ∧ gi' = gi ∧ gl' = gl ∧ gr' = zRT r) 104 [some (.ref 87), some (.int (nI b)), some (.int (nI e)), some (.int (nI k)), some (.int (nI (zWp k))), some (.int (nI (zWn k))), some (.int (nI 1)), some (.int (nI i))] [] gi gl (zRT r) := by
          intro i hm
          refine zA_iload_6 dX11_wordAt_104 ?_
          refine zA_if_eq 111 dX11_wordAt_106 (by decide) (fun hh => absurd hh (by decide)) (fun _ => ?_)
          refine zA_iload_3 dX11_wordAt_109 ?_
          exact zB_iret rfl dX11_wordAt_110 (⟨Or.inl ⟨k, hk21, rfl, hm, hno⟩, rfl, rfl, rfl⟩)
        have endN : ∀ (i : Nat), ¬ zWm (gi 88) b e k → zB_i x g mX11_wordAt 0 zSH (fun z gi' gl' gr' => zWa (gi 88) b e z ∧ gi' = gi ∧ gl' = gl ∧ gr' = zRT r) 104 [some (.ref 87), some (.int (nI b)), some (.int (nI e)), some (.int (nI k)), some (.int (nI (zWp k))), some (.int (nI (zWn k))), some (.int (nI 0)), some (.int (nI i))] [] gi gl (zRT r) := by
          intro i hm
          refine zA_iload_6 dX11_wordAt_104 ?_
          refine zA_if_eq 111 dX11_wordAt_106 (by decide) (fun _ => ?_) (fun hh => absurd (by decide) hh)
          refine zA_iload_4 dX11_wordAt_111 ?_
          refine zA_iload_5 dX11_wordAt_113 ?_
          refine zA_iconst (nI 1) dX11_wordAt_115 ic_1 ?_
          refine zA_iaddN dX11_wordAt_116 ?_
          refine zA_iaddN dX11_wordAt_117 ?_
          refine zA_istore_4 dX11_wordAt_118 rfl ?_
          refine zA_iinc_3 (v := nI (k + 1)) dX11_wordAt_120 (zn_inc _) rfl ?_
          refine zA_goto 5 dX11_wordAt_123 (by decide) ?_
          have e5 : zWp k + (zWn k + 1) = zWp (k + 1) := by omega
          rw [e5]
          exact ih (k + 1) _ _ _ (by omega) (fun j hj => by
            by_cases c : j = k
            · rw [c]; exact hm
            · exact hno j (by omega))
        intro m
        induction m with
        | zero =>
          intro i sm hi hs
          refine zA_iload_7 dX11_wordAt_57 ?_
          refine zA_iload_5 dX11_wordAt_59 ?_
          refine zA_icmp_geN 104 dX11_wordAt_61 (by decide) (by omega) (by omega) (fun h1 => ?_) (fun h1 => ?_)
          · rcases hs with ⟨q1, q2, q3⟩ | ⟨q1, q2⟩
            · rw [q1]; exact endY i (fin1 (fun j hj => q3 j (by omega)) q2)
            · rw [q1]; exact endN i q2
          · exact absurd h1 (by omega)
        | succ m ihc =>
          intro i sm hi hs
          refine zA_iload_7 dX11_wordAt_57 ?_
          refine zA_iload_5 dX11_wordAt_59 ?_
          refine zA_icmp_geN 104 dX11_wordAt_61 (by decide) (by omega) (by omega) (fun h1 => ?_) (fun h1 => ?_)
          · exact absurd h1 (by omega)
          · rcases hs with ⟨q1, q2, q3⟩ | ⟨q1, q2⟩
            · subst q1
              have x106 : gi 106 (zWp k + i) = zWl.getD (zWp k + i) 0 := hW _ (by omega)
              refine zA_iload_6 dX11_wordAt_64 ?_
              refine zA_if_eq 104 dX11_wordAt_66 (by decide) (fun hh => absurd hh (by decide)) (fun _ => ?_)
              refine zA_aload_0 dX11_wordAt_69 ?_
              refine zA_getR sh_87 fX11_65 dX11_wordAt_70 rfl (rt_87_28 _) ?_
              refine zA_iload_4 dX11_wordAt_73 ?_
              refine zA_iload_7 dX11_wordAt_75 ?_
              refine zA_iaddN dX11_wordAt_77 ?_
              refine zA_iald (v := (zWl.getD (zWp k + i) 0)) ((zWp k) + i) sh_106 dX11_wordAt_78 rfl (by omega) (by decide) x106 ?_
              refine zA_aload_0 dX11_wordAt_79 ?_
              refine zA_getR sh_87 fX11_7 dX11_wordAt_80 rfl (rt_87_0 _) ?_
              refine zA_iload_1 dX11_wordAt_83 ?_
              refine zA_iload_7 dX11_wordAt_84 ?_
              refine zA_iaddN dX11_wordAt_86 ?_
              refine zA_iald (v := (gi 88 (b + i))) (b + i) sh_88 dX11_wordAt_87 rfl (by omega) (by decide) rfl ?_
              refine zA_icmp_ne 95 dX11_wordAt_88 (by decide) (fun h2 => ?_) (fun h2 => ?_)
              · refine zA_iconst (nI 0) dX11_wordAt_95 ic_0 ?_
                refine zA_istore_6 dX11_wordAt_96 rfl ?_
                refine zA_iinc_7 (v := nI (i + 1)) dX11_wordAt_98 (zn_inc _) rfl ?_
                refine zA_goto 57 dX11_wordAt_101 (by decide) ?_
                exact ihc (i + 1) _ (by omega) (Or.inr ⟨rfl, fun z => h2 (z.2 i h1)⟩)
              · refine zA_iconst (nI 1) dX11_wordAt_91 ic_1 ?_
                refine zA_goto 96 dX11_wordAt_92 (by decide) ?_
                refine zA_istore_6 dX11_wordAt_96 rfl ?_
                refine zA_iinc_7 (v := nI (i + 1)) dX11_wordAt_98 (zn_inc _) rfl ?_
                refine zA_goto 57 dX11_wordAt_101 (by decide) ?_
                refine ihc (i + 1) _ (by omega) (Or.inl ⟨rfl, q2, fun j hj => ?_⟩)
                by_cases c : j = i
                · rw [c]; exact h2
                · exact q3 j (by omega)
            · subst q1
              refine zA_iload_6 dX11_wordAt_64 ?_
              refine zA_if_eq 104 dX11_wordAt_66 (by decide) (fun _ => ?_) (fun hh => absurd (by decide) hh)
              exact endN i q2
      have len : ∀ (m j : Nat) (l6 l7 : Option Value), j + m = zWn k → zB_i x g mX11_wordAt 0 zSH (fun z gi' gl' gr' => zWa (gi 88) b e z ∧ gi' = gi ∧ gl' = gl ∧ gr' = zRT r) 18 [some (.ref 87), some (.int (nI b)), some (.int (nI e)), some (.int (nI k)), some (.int (nI (zWp k))), some (.int (nI j)), l6, l7] [] gi gl (zRT r) := by
        intro m
        induction m with
        | zero =>
          intro j l6 l7 hj
          have ej : j = zWn k := by omega
          subst ej
          refine zA_aload_0 dX11_wordAt_18 ?_
          refine zA_getR sh_87 fX11_65 dX11_wordAt_19 rfl (rt_87_28 _) ?_
          refine zA_iload_4 dX11_wordAt_22 ?_
          refine zA_iload_5 dX11_wordAt_24 ?_
          refine zA_iaddN dX11_wordAt_26 ?_
          refine zA_iald (v := (nI 32)) ((zWp k) + (zWn k)) sh_106 dX11_wordAt_27 rfl (by omega) (by decide) ((hW _ (by omega)).trans w3) ?_
          refine zA_bipush (nI 32) dX11_wordAt_28 bc_32 ?_
          refine zA_icmp_eqN 39 dX11_wordAt_30 (by decide) (by decide) (by decide) (fun _ => ?_) (fun hh => absurd hh (by decide))
          refine zA_iload_5 dX11_wordAt_39 ?_
          refine zA_iload_2 dX11_wordAt_41 ?_
          refine zA_iload_1 dX11_wordAt_42 ?_
          refine zA_isubN dX11_wordAt_43 (by omega) ?_
          refine zA_icmp_neN 51 dX11_wordAt_44 (by decide) (by omega) (by omega) (fun h2 => ?_) (fun h2 => ?_)
          · refine zA_iconst (nI 0) dX11_wordAt_51 ic_0 ?_
            refine zA_istore_6 dX11_wordAt_52 rfl ?_
            refine zA_iconst (nI 0) dX11_wordAt_54 ic_0 ?_
            refine zA_istore_7 dX11_wordAt_55 rfl ?_
            exact cmp (zWn k) 0 _ (by omega) (Or.inr ⟨rfl, fun z => h2 z.1⟩)
          · refine zA_iconst (nI 1) dX11_wordAt_47 ic_1 ?_
            refine zA_goto 52 dX11_wordAt_48 (by decide) ?_
            refine zA_istore_6 dX11_wordAt_52 rfl ?_
            refine zA_iconst (nI 0) dX11_wordAt_54 ic_0 ?_
            refine zA_istore_7 dX11_wordAt_55 rfl ?_
            exact cmp (zWn k) 0 _ (by omega) (Or.inl ⟨rfl, h2, fun j hj => absurd hj (Nat.not_lt_zero _)⟩)
        | succ m ihl =>
          intro j l6 l7 hj
          refine zA_aload_0 dX11_wordAt_18 ?_
          refine zA_getR sh_87 fX11_65 dX11_wordAt_19 rfl (rt_87_28 _) ?_
          refine zA_iload_4 dX11_wordAt_22 ?_
          refine zA_iload_5 dX11_wordAt_24 ?_
          refine zA_iaddN dX11_wordAt_26 ?_
          refine zA_iald (v := (zWl.getD (zWp k + j) 0)) ((zWp k) + j) sh_106 dX11_wordAt_27 rfl (by omega) (by decide) (hW _ (by omega)) ?_
          refine zA_bipush (nI 32) dX11_wordAt_28 bc_32 ?_
          refine zA_icmp_eq 39 dX11_wordAt_30 (by decide) (fun h2 => ?_) (fun h2 => ?_)
          · exact absurd h2 (w4 j (by omega))
          · refine zA_iinc_5 (v := nI (j + 1)) dX11_wordAt_33 (zn_inc _) rfl ?_
            refine zA_goto 18 dX11_wordAt_36 (by decide) ?_
            exact ihl (j + 1) _ _ (by omega)
      refine zA_iload_4 dX11_wordAt_5 ?_
      refine zA_aload_0 dX11_wordAt_7 ?_
      refine zA_getR sh_87 fX11_65 dX11_wordAt_8 rfl (rt_87_28 _) ?_
      refine zA_alen 0 sh_106 (fun _ => rfl) dX11_wordAt_11 rfl ?_
      refine zA_icmp_geN 126 dX11_wordAt_12 (by decide) (by omega) (by omega) (fun h => ?_) (fun h => ?_)
      · exact absurd h (by omega)
      · refine zA_iconst (nI 0) dX11_wordAt_15 ic_0 ?_
        refine zA_istore_5 dX11_wordAt_16 rfl ?_
        exact len (zWn k) 0 _ _ (by omega)
  exact out 21 0 _ _ _ (by omega) (fun j hj => absurd hj (Nat.not_lt_zero _))
