theorem zup_id (gi : zm_I) (q : Nat) : va_up gi q (gi q) = gi := funext fun j => by
  unfold va_up
  by_cases h : j = q
  · rw [if_pos h, h]
  · rw [if_neg h]
theorem zn_dec (a : Int32) : a + Int32.ofInt (-1) = a - nI 1 := by
  have h : Int32.ofInt (-1) = -(nI 1) := by decide
  rw [h, Int32.sub_eq_add_neg]
theorem zn_m1 : nI 0 - nI 1 < 0 := by decide
theorem zs_up (gi : zm_I) (q : Nat) (t : Nat → Int32) (j : Nat) (v : Int32) : zs (va_up gi q t) q j v = va_up gi q (upd t j v) := by unfold zs; rw [va_up_self, bx_uu]
def fSetStep (gi : zm_I) (i : Nat) (p : zm_I × Int64) : zm_I × Int64 :=
  if lg_cmp ((p.2 >>> ((nI i).toInt64 &&& 63)) &&& 1) 0 = 0 then
    (if gi 55 i = -1 then
      (if p.1 56 (zi (gi 52 i) * 4 + zi (gi 53 i)) = -1 then (zs p.1 56 (zi (gi 52 i) * 4 + zi (gi 53 i)) (gi 54 i), p.2) else p)
    else (p.1, p.2 ||| ((1 : Int64) <<< ((gi 55 i).toInt64 &&& 63))))
  else p
def fSetL (gi : zm_I) : Nat → zm_I × Int64 → zm_I × Int64
  | 0, p => p
  | m + 1, p => fSetL gi m (fSetStep gi m p)
def fSettle (gi : zm_I) (n : Nat) : zm_I := (fSetL gi n (va_up gi 56 (zfill (gi 56) 32 (-1)), 0)).1
theorem fSetStep_nq (gi : zm_I) (i : Nat) (p : zm_I × Int64) {a : Nat} (h : a ≠ 56) : (fSetStep gi i p).1 a = p.1 a := by
  unfold fSetStep
  split
  · split
    · split
      · exact zs_nq h
      · rfl
    · rfl
  · rfl
theorem ct_settle (g : zm_G) (gi : zm_I) (gl : zm_J) (r : Nat) {n : Nat} (hn : n ≤ 40) (hv : ∀ i, i < n → gi 55 i = -1 → zx (gi 52 i) 8 ∧ zx (gi 53 i) 4)  : zC_v g yX5_settle mX5_settle 1 [.ref 51, .int (nI n)] zSH gi gl (zRT r) (fun gi' gl' gr' => gi' = fSettle gi n ∧ gl' = gl ∧ gr' = zRT r) := by
  refine zC_v_of [some (.ref 51), some (.int (nI n)), none, none, none] (by decide) rfl rfl (Nat.le_of_ble_eq_true rfl) (fun x => ?_)
  refine zA_aload_0 dX5_settle_0 ?_
  refine zA_getR sh_51 fX5_24 dX5_settle_1 rfl (rt_51_4 _) ?_
  refine zA_iconst (-1) dX5_settle_4 ic_m1 ?_
  refine zA_cSv (ct_fill g gi gl _ (-1) sh_56 (by decide)) calJ7_fill_53178 stJ7_fill_53178 lX5_31 dX5_settle_5 (by decide) (by simp [Value.category]) rfl (Nat.le_refl _) (Nat.le_refl _) (fun gi' gl' gr' ⟨e1, e2, e3⟩ => ?_)
  rw [e1, e2, e3]
  clear e1 e2 e3
  refine zA_lconst 0 dX5_settle_8 (by decide) ?_
  refine zA_lstore_2 dX5_settle_9 rfl ?_
  refine zA_iload_1 dX5_settle_10 ?_
  refine zA_iconst (nI 1) dX5_settle_11 ic_1 ?_
  refine zA_isub dX5_settle_12 ?_
  refine zA_istore_4 dX5_settle_13 rfl ?_
  have key : ∀ (m : Nat) (p : zm_I × Int64), m ≤ n → (∀ a, a ≠ 56 → p.1 a = gi a) → (fSetL gi m p).1 = fSettle gi n → zB_v x g mX5_settle 1 zSH (fun gi' gl' gr' => gi' = fSettle gi n ∧ gl' = gl ∧ gr' = zRT r) 15 [some (.ref 51), some (.int (nI n)), some (.long p.2), none, some (.int (nI m - nI 1))] [] p.1 gl (zRT r) := by
    intro m
    induction m with
    | zero =>
      intro p hm hf hp
      refine zA_iload_4 dX5_settle_15 ?_
      refine zA_if_lt 118 dX5_settle_17 (by decide) (fun h => ?_) (fun h => ?_)
      · exact zB_vret rfl dX5_settle_118 (⟨hp, rfl, rfl⟩)
      · exact absurd zn_m1 h
    | succ i ih =>
      intro p hm hf hp
      rw [show nI (i + 1) - nI 1 = nI i from nI_pred i]
      refine zA_iload_4 dX5_settle_15 ?_
      refine zA_if_lt 118 dX5_settle_17 (by decide) (fun h => ?_) (fun h => ?_)
      · exact absurd h (nI_pos (by omega))
      · refine zA_lload_2 dX5_settle_20 ?_
        refine zA_iload_4 dX5_settle_21 ?_
        refine zA_lshr dX5_settle_23 ?_
        refine zA_lconst 1 dX5_settle_24 (by decide) ?_
        refine zA_land dX5_settle_25 ?_
        refine zA_lconst 0 dX5_settle_26 (by decide) ?_
        refine zA_lcmp dX5_settle_27 ?_
        refine zA_if_ne 112 dX5_settle_28 (by decide) (fun h1 => ?_) (fun h1 => ?_)
        · refine zA_iinc_4 (v := (nI i - nI 1)) dX5_settle_112 (zn_dec _) rfl ?_
          refine zA_goto 15 dX5_settle_115 (by decide) ?_
          refine ih p (by omega) (fun a ha => hf a ha) ?_
          rw [← hp]
          show _ = (fSetL gi i (fSetStep gi i p)).1
          unfold fSetStep
          rw [if_neg h1]
        · refine zA_aload_0 dX5_settle_31 ?_
          refine zA_getR sh_51 fX5_21 dX5_settle_32 rfl (rt_51_3 _) ?_
          refine zA_iload_4 dX5_settle_35 ?_
          refine zA_iald (v := (gi 55 i)) i sh_55 dX5_settle_37 rfl (by omega) (by decide) (congrFun (hf 55 (by decide)) i) ?_
          refine zA_iconst (-1) dX5_settle_38 ic_m1 ?_
          refine zA_icmp_eq 57 dX5_settle_39 (by decide) (fun h2 => ?_) (fun h2 => ?_)
          · have hz := hv i (by omega) h2
            have hz1 := hz.1.2
            have hz2 := hz.2.2
            refine zA_aload_0 dX5_settle_57 ?_
            refine zA_getR sh_51 fX5_24 dX5_settle_58 rfl (rt_51_4 _) ?_
            refine zA_aload_0 dX5_settle_61 ?_
            refine zA_getR sh_51 fX5_9 dX5_settle_62 rfl (rt_51_0 _) ?_
            refine zA_iload_4 dX5_settle_65 ?_
            refine zA_iald (v := (nI (zi (gi 52 i)))) i sh_52 dX5_settle_67 rfl (by omega) (by decide) ((congrFun (hf 52 (by decide)) i).trans hz.1.1) ?_
            refine zA_iconst (nI 4) dX5_settle_68 ic_4 ?_
            refine zA_imulN dX5_settle_69 ?_
            refine zA_aload_0 dX5_settle_70 ?_
            refine zA_getR sh_51 fX5_15 dX5_settle_71 rfl (rt_51_1 _) ?_
            refine zA_iload_4 dX5_settle_74 ?_
            refine zA_iald (v := (nI (zi (gi 53 i)))) i sh_53 dX5_settle_76 rfl (by omega) (by decide) ((congrFun (hf 53 (by decide)) i).trans hz.2.1) ?_
            refine zA_iaddN dX5_settle_77 ?_
            refine zA_iald (v := (p.1 56 (((zi (gi 52 i)) * 4) + (zi (gi 53 i))))) (((zi (gi 52 i)) * 4) + (zi (gi 53 i))) sh_56 dX5_settle_78 rfl (by omega) (by decide) rfl ?_
            refine zA_iconst (-1) dX5_settle_79 ic_m1 ?_
            refine zA_icmp_ne 112 dX5_settle_80 (by decide) (fun h3 => ?_) (fun h3 => ?_)
            · refine zA_iinc_4 (v := (nI i - nI 1)) dX5_settle_112 (zn_dec _) rfl ?_
              refine zA_goto 15 dX5_settle_115 (by decide) ?_
              refine ih p (by omega) (fun a ha => hf a ha) ?_
              rw [← hp]
              show _ = (fSetL gi i (fSetStep gi i p)).1
              unfold fSetStep
              rw [if_pos h1, if_pos h2, if_neg h3]
            · refine zA_aload_0 dX5_settle_83 ?_
              refine zA_getR sh_51 fX5_24 dX5_settle_84 rfl (rt_51_4 _) ?_
              refine zA_aload_0 dX5_settle_87 ?_
              refine zA_getR sh_51 fX5_9 dX5_settle_88 rfl (rt_51_0 _) ?_
              refine zA_iload_4 dX5_settle_91 ?_
              refine zA_iald (v := (nI (zi (gi 52 i)))) i sh_52 dX5_settle_93 rfl (by omega) (by decide) ((congrFun (hf 52 (by decide)) i).trans hz.1.1) ?_
              refine zA_iconst (nI 4) dX5_settle_94 ic_4 ?_
              refine zA_imulN dX5_settle_95 ?_
              refine zA_aload_0 dX5_settle_96 ?_
              refine zA_getR sh_51 fX5_15 dX5_settle_97 rfl (rt_51_1 _) ?_
              refine zA_iload_4 dX5_settle_100 ?_
              refine zA_iald (v := (nI (zi (gi 53 i)))) i sh_53 dX5_settle_102 rfl (by omega) (by decide) ((congrFun (hf 53 (by decide)) i).trans hz.2.1) ?_
              refine zA_iaddN dX5_settle_103 ?_
              refine zA_aload_0 dX5_settle_104 ?_
              refine zA_getR sh_51 fX5_18 dX5_settle_105 rfl (rt_51_2 _) ?_
              refine zA_iload_4 dX5_settle_108 ?_
              refine zA_iald (v := (gi 54 i)) i sh_54 dX5_settle_110 rfl (by omega) (by decide) (congrFun (hf 54 (by decide)) i) ?_
              refine zS_iast (((zi (gi 52 i)) * 4) + (zi (gi 53 i))) sh_56 dX5_settle_111 rfl (by omega) (by decide) ?_
              refine zA_iinc_4 (v := (nI i - nI 1)) dX5_settle_112 (zn_dec _) rfl ?_
              refine zA_goto 15 dX5_settle_115 (by decide) ?_
              refine ih (zs p.1 56 (zi (gi 52 i) * 4 + zi (gi 53 i)) (gi 54 i), p.2) (by omega) (fun a ha => (zs_nq ha).trans (hf a ha)) ?_
              rw [← hp]
              show _ = (fSetL gi i (fSetStep gi i p)).1
              unfold fSetStep
              rw [if_pos h1, if_pos h2, if_pos h3]
          · refine zA_lload_2 dX5_settle_42 ?_
            refine zA_lconst 1 dX5_settle_43 (by decide) ?_
            refine zA_aload_0 dX5_settle_44 ?_
            refine zA_getR sh_51 fX5_21 dX5_settle_45 rfl (rt_51_3 _) ?_
            refine zA_iload_4 dX5_settle_48 ?_
            refine zA_iald (v := (gi 55 i)) i sh_55 dX5_settle_50 rfl (by omega) (by decide) (congrFun (hf 55 (by decide)) i) ?_
            refine zA_lshl dX5_settle_51 ?_
            refine zA_lor dX5_settle_52 ?_
            refine zA_lstore_2 dX5_settle_53 rfl ?_
            refine zA_goto 112 dX5_settle_54 (by decide) ?_
            refine zA_iinc_4 (v := (nI i - nI 1)) dX5_settle_112 (zn_dec _) rfl ?_
            refine zA_goto 15 dX5_settle_115 (by decide) ?_
            refine ih (p.1, p.2 ||| ((1 : Int64) <<< ((gi 55 i).toInt64 &&& 63))) (by omega) (fun a ha => hf a ha) ?_
            rw [← hp]
            show _ = (fSetL gi i (fSetStep gi i p)).1
            unfold fSetStep
            rw [if_pos h1, if_neg h2]
  exact key n (va_up gi 56 (zfill (gi 56) 32 (-1)), 0) (Nat.le_refl _) (fun a ha => zm_une ha) rfl
def fShS (a b : Nat) (mi : Int32) (t : Nat → Int32) (f to : Nat) : Nat → Int32 :=
  if t (f * 8 + to) ≤ zmin (t (f * 8 + a) + t (b * 8 + to)) (t (f * 8 + b) + t (a * 8 + to)) + mi then t else upd t (f * 8 + to) (zmin (t (f * 8 + a) + t (b * 8 + to)) (t (f * 8 + b) + t (a * 8 + to)) + mi)
def fShI (a b : Nat) (mi : Int32) (f : Nat) : Nat → (Nat → Int32) → Nat → Int32
  | 0, t => t
  | k + 1, t => fShS a b mi (fShI a b mi f k t) f k
def fShO (a b : Nat) (mi : Int32) : Nat → (Nat → Int32) → Nat → Int32
  | 0, t => t
  | k + 1, t => fShI a b mi k 8 (fShO a b mi k t)
theorem ct_shorten (g : zm_G) (gi : zm_I) (gl : zm_J) (r : Nat) {q a b : Nat} (hq : zSH[q]? = some (.inr (.int, 64))) (ha : a < 8) (hb : b < 8) (mi : Int32)  : zC_v g yX3_shorten mX3_shorten 1 [.ref q, .int (nI a), .int (nI b), .int mi] zSH gi gl (zRT r) (fun gi' gl' gr' => gi' = va_up gi q (fShO a b mi 8 (gi q)) ∧ gl' = gl ∧ gr' = zRT r) := by
  refine zC_v_of [some (.ref q), some (.int (nI a)), some (.int (nI b)), some (.int mi), none, none, none, none, none] (by decide) rfl rfl (Nat.le_of_ble_eq_true rfl) (fun x => ?_)
  refine zA_iconst (nI 0) dX3_shorten_0 ic_0 ?_
  refine zA_istore_4 dX3_shorten_1 rfl ?_
  have key : ∀ (m f : Nat) (l5 l6 l7 l8 : Option Value), zm_c1 l5 = true → zm_c1 l6 = true → zm_c1 l7 = true → f + m = 8 → zB_v x g mX3_shorten 1 zSH (fun gi' gl' gr' => gi' = va_up gi q (fShO a b mi 8 (gi q)) ∧ gl' = gl ∧ gr' = zRT r) 3 [some (.ref q), some (.int (nI a)), some (.int (nI b)), some (.int mi), some (.int (nI f)), l5, l6, l7, l8] [] (va_up gi q (fShO a b mi f (gi q))) gl (zRT r) := by
    intro m
    induction m with
    | zero =>
      intro f l5 l6 l7 l8 c5 c6 c7 hi
      refine zA_iload_4 dX3_shorten_3 ?_
      refine zA_bipush (nI 8) dX3_shorten_5 bc_8 ?_
      refine zA_icmp_geN 112 dX3_shorten_7 (by decide) (by omega) (by omega) (fun h => ?_) (fun h => ?_)
      · have e : f = 8 := by omega
        subst e
        exact zB_vret rfl dX3_shorten_112 (⟨rfl, rfl, rfl⟩)
      · exact absurd h (by omega)
    | succ m ih =>
      intro f l5 l6 l7 l8 c5 c6 c7 hi
      refine zA_iload_4 dX3_shorten_3 ?_
      refine zA_bipush (nI 8) dX3_shorten_5 bc_8 ?_
      refine zA_icmp_geN 112 dX3_shorten_7 (by decide) (by omega) (by omega) (fun h => ?_) (fun h => ?_)
      · exact absurd h (by omega)
      · refine zA_iconst (nI 0) dX3_shorten_10 ic_0 ?_
        refine zA_istore_5 dX3_shorten_11 rfl ?_
        have inn : ∀ (n k : Nat) (l6 l7 l8 : Option Value), zm_c1 l6 = true → zm_c1 l7 = true → k + n = 8 → zB_v x g mX3_shorten 1 zSH (fun gi' gl' gr' => gi' = va_up gi q (fShO a b mi 8 (gi q)) ∧ gl' = gl ∧ gr' = zRT r) 13 [some (.ref q), some (.int (nI a)), some (.int (nI b)), some (.int mi), some (.int (nI f)), some (.int (nI k)), l6, l7, l8] [] (va_up gi q (fShI a b mi f k (fShO a b mi f (gi q)))) gl (zRT r) := by
          intro n
          induction n with
          | zero =>
            intro k l6 l7 l8 c6 c7 hk
            refine zA_iload_5 dX3_shorten_13 ?_
            refine zA_bipush (nI 8) dX3_shorten_15 bc_8 ?_
            refine zA_icmp_geN 106 dX3_shorten_17 (by decide) (by omega) (by omega) (fun h9 => ?_) (fun h9 => ?_)
            · have e : k = 8 := by omega
              subst e
              refine zA_iinc_4 (v := nI (f + 1)) dX3_shorten_106 (zn_inc _) rfl ?_
              refine zA_goto 3 dX3_shorten_109 (by decide) ?_
              exact ih (f + 1) _ _ _ _ rfl c6 c7 (by omega)
            · exact absurd h9 (by omega)
          | succ n ih2 =>
            intro k l6 l7 l8 c6 c7 hk
            generalize htt : fShI a b mi f k (fShO a b mi f (gi q)) = tt
            refine zA_iload_5 dX3_shorten_13 ?_
            refine zA_bipush (nI 8) dX3_shorten_15 bc_8 ?_
            refine zA_icmp_geN 106 dX3_shorten_17 (by decide) (by omega) (by omega) (fun h9 => ?_) (fun h9 => ?_)
            · exact absurd h9 (by omega)
            · refine zA_aload_0 dX3_shorten_20 ?_
              refine zA_iload_4 dX3_shorten_21 ?_
              refine zA_bipush (nI 8) dX3_shorten_23 bc_8 ?_
              refine zA_imulN dX3_shorten_25 ?_
              refine zA_iload_1 dX3_shorten_26 ?_
              refine zA_iaddN dX3_shorten_27 ?_
              refine zA_iald (v := (tt (f * 8 + a))) ((f * 8) + a) hq dX3_shorten_28 rfl (by omega) (by decide) (by rw [va_up_self]) ?_
              refine zA_aload_0 dX3_shorten_29 ?_
              refine zA_iload_2 dX3_shorten_30 ?_
              refine zA_bipush (nI 8) dX3_shorten_31 bc_8 ?_
              refine zA_imulN dX3_shorten_33 ?_
              refine zA_iload_5 dX3_shorten_34 ?_
              refine zA_iaddN dX3_shorten_36 ?_
              refine zA_iald (v := (tt (b * 8 + k))) ((b * 8) + k) hq dX3_shorten_37 rfl (by omega) (by decide) (by rw [va_up_self]) ?_
              refine zA_iadd dX3_shorten_38 ?_
              refine zA_istore_6 dX3_shorten_39 rfl ?_
              refine zA_aload_0 dX3_shorten_41 ?_
              refine zA_iload_4 dX3_shorten_42 ?_
              refine zA_bipush (nI 8) dX3_shorten_44 bc_8 ?_
              refine zA_imulN dX3_shorten_46 ?_
              refine zA_iload_2 dX3_shorten_47 ?_
              refine zA_iaddN dX3_shorten_48 ?_
              refine zA_iald (v := (tt (f * 8 + b))) ((f * 8) + b) hq dX3_shorten_49 rfl (by omega) (by decide) (by rw [va_up_self]) ?_
              refine zA_aload_0 dX3_shorten_50 ?_
              refine zA_iload_1 dX3_shorten_51 ?_
              refine zA_bipush (nI 8) dX3_shorten_52 bc_8 ?_
              refine zA_imulN dX3_shorten_54 ?_
              refine zA_iload_5 dX3_shorten_55 ?_
              refine zA_iaddN dX3_shorten_57 ?_
              refine zA_iald (v := (tt (a * 8 + k))) ((a * 8) + k) hq dX3_shorten_58 rfl (by omega) (by decide) (by rw [va_up_self]) ?_
              refine zA_iadd dX3_shorten_59 ?_
              refine zA_istore_7 dX3_shorten_60 rfl ?_
              refine zA_iload_6 dX3_shorten_62 ?_
              refine zA_iload_7 dX3_shorten_64 ?_
              refine zA_cSi (ct_min g _ _ _ _ _) calJ9_min_7cf53 stJ9_min_7cf53 lX3_48 dX3_shorten_66 (by decide) (by simp [Value.category]) rfl (Nat.le_refl _) (Nat.le_refl _) (fun zz gi' gl' gr' ⟨hz, e1, e2, e3⟩ => ?_)
              rw [hz, e1, e2, e3]
              clear hz e1 e2 e3
              refine zA_iload_3 dX3_shorten_69 ?_
              refine zA_iadd dX3_shorten_70 ?_
              refine zA_istore_8 dX3_shorten_71 rfl ?_
              refine zA_iload_8 dX3_shorten_73 ?_
              refine zA_aload_0 dX3_shorten_75 ?_
              refine zA_iload_4 dX3_shorten_76 ?_
              refine zA_bipush (nI 8) dX3_shorten_78 bc_8 ?_
              refine zA_imulN dX3_shorten_80 ?_
              refine zA_iload_5 dX3_shorten_81 ?_
              refine zA_iaddN dX3_shorten_83 ?_
              refine zA_iald (v := (tt (f * 8 + k))) ((f * 8) + k) hq dX3_shorten_84 rfl (by omega) (by decide) (by rw [va_up_self]) ?_
              refine zA_icmp_ge 100 dX3_shorten_85 (by decide) (fun h8 => ?_) (fun h8 => ?_)
              · refine zA_iinc_5 (v := nI (k + 1)) dX3_shorten_100 (zn_inc _) rfl ?_
                refine zA_goto 13 dX3_shorten_103 (by decide) ?_
                have e8 : fShI a b mi f (k + 1) (fShO a b mi f (gi q)) = tt := by show fShS a b mi (fShI a b mi f k (fShO a b mi f (gi q))) f k = tt; rw [htt]; exact if_pos h8
                have h7 := fun (l6 l7 l8 : Option Value) (c6 : zm_c1 l6 = true) (c7 : zm_c1 l7 = true) => ih2 (k + 1) l6 l7 l8 c6 c7 (by omega)
                rw [e8] at h7
                exact h7 _ _ _ rfl rfl
              · refine zA_aload_0 dX3_shorten_88 ?_
                refine zA_iload_4 dX3_shorten_89 ?_
                refine zA_bipush (nI 8) dX3_shorten_91 bc_8 ?_
                refine zA_imulN dX3_shorten_93 ?_
                refine zA_iload_5 dX3_shorten_94 ?_
                refine zA_iaddN dX3_shorten_96 ?_
                refine zA_iload_8 dX3_shorten_97 ?_
                refine zS_iast ((f * 8) + k) hq dX3_shorten_99 rfl (by omega) (by decide) ?_
                refine zA_iinc_5 (v := nI (k + 1)) dX3_shorten_100 (zn_inc _) rfl ?_
                refine zA_goto 13 dX3_shorten_103 (by decide) ?_
                have e8 : fShI a b mi f (k + 1) (fShO a b mi f (gi q)) = upd tt (f * 8 + k) (zmin (tt (f * 8 + a) + tt (b * 8 + k)) (tt (f * 8 + b) + tt (a * 8 + k)) + mi) := by show fShS a b mi (fShI a b mi f k (fShO a b mi f (gi q))) f k = _; rw [htt]; exact if_neg h8
                have h7 := fun (l6 l7 l8 : Option Value) (c6 : zm_c1 l6 = true) (c7 : zm_c1 l7 = true) => ih2 (k + 1) l6 l7 l8 c6 c7 (by omega)
                rw [e8, ← zs_up] at h7
                exact h7 _ _ _ rfl rfl
        exact inn 8 0 _ _ _ c6 c7 (by omega)
  have h0 := key 8 0 none none none none rfl rfl rfl (by omega)
  rw [show fShO a b mi 0 (gi q) = gi q from rfl, zup_id] at h0
  exact h0
