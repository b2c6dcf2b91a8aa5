/-! ===== the law: look, and its loop ===== -/
theorem lc_look {x : zm_X} {g : zm_G} {Q : State → Prop} {ce sl n i : Nat} {xs : Nat → Int32} {a5 a6 : Option Value} {gi : zm_I} {gl : zm_J} {r : Nat} (hl : x.l.stackTraces = false) (hX : zm_GX g x.s) (hLX : zLX x.s) (hS : zSc g x n xs) (hb : n < 2 ^ 31) (hI : zIv gi) (hi : i + 8 ≤ n) (hce : ce + 1 ≤ 601024) (hsl : sl + 6 ≤ 7293034) (k : ∀ a5' a6' gi' gl' r', zIv gi' → zA x g mL_law 13 601024 7293034 Q (ce + 1) (sl + 6) 1314 [some (.ref ((zm_cB + 12))), some (.ref 0), some (.ref 87), some (.ref 135), some (.int (nI i)), a5', a6'] [] (zSH, gi', gl', zRT r')) : zA x g mL_law 13 601024 7293034 Q ce sl 1221 [some (.ref ((zm_cB + 12))), some (.ref 0), some (.ref 87), some (.ref 135), some (.int (nI i)), a5, a6] [] (zSH, gi, gl, zRT r) := by
  obtain ⟨V, W, Pn, E, K, Rd, Ps, T, Tp, ⟨hV, hV8, hV87, h89, -⟩, -⟩ := id hI
  refine zA_aload_1 dL_law_1221 ?_
  refine zA_aload_0 dL_law_1222 ?_
  refine zA_iload_4 dL_law_1223 ?_
  refine zA_iconst (nI 1) dL_law_1225 ic_1 ?_
  refine zA_iaddN dL_law_1226 ?_
  refine zA_sld hS (i + 1) rfl (by omega) hb dL_law_1227 ?_
  refine zA_aload_0 dL_law_1228 ?_
  refine zA_iload_4 dL_law_1229 ?_
  refine zA_iconst (nI 2) dL_law_1231 ic_2 ?_
  refine zA_iaddN dL_law_1232 ?_
  refine zA_sld hS (i + 2) rfl (by omega) hb dL_law_1233 ?_
  refine zA_aload_3 dL_law_1234 ?_
  refine zA_LL (V := V) (a := xs (i + 1)) (b := xs (i + 2)) hl hX hLX hV hV8 dL_law_1235 (by decide) hce hsl (by simp) rfl (fun z gi1 gl1 gr1 hp1 => ?_)
  obtain ⟨rfl, rfl, hp1⟩ := hp1
  refine zA_istore_5 dL_law_1238 rfl ?_
  refine zA_aload_2 dL_law_1240 ?_
  refine zA_aload_0 dL_law_1241 ?_
  refine zA_iload_4 dL_law_1242 ?_
  refine zA_iconst (nI 1) dL_law_1244 ic_1 ?_
  refine zA_iaddN dL_law_1245 ?_
  refine zA_sld hS (i + 1) rfl (by omega) hb dL_law_1246 ?_
  refine zA_aload_0 dL_law_1247 ?_
  refine zA_iload_4 dL_law_1248 ?_
  refine zA_iconst (nI 2) dL_law_1250 ic_2 ?_
  refine zA_iaddN dL_law_1251 ?_
  refine zA_sld hS (i + 2) rfl (by omega) hb dL_law_1252 ?_
  refine zA_cVi (ct_rLook g _ _ r hV87 hV8 (xs (i + 1)) (xs (i + 2))) calX11_look stX11_look lL_130 dL_law_1253 (by decide) (by simp [Value.category]) rfl hce hsl sh_87 rfl (fun z2 gi2 gl2 gr2 hp2 => ?_)
  have hq : zIv gi2 ∧ gr2 = zRT r ∧ gi2 87 2 = z ∧ (z = 0 → gl2 135 0 = z2.toInt64) := by
    rcases hp1 with ⟨o1, o2, rfl, rfl⟩ | ⟨o1, rfl, rfl⟩ | ⟨o1, o2, rfl, rfl⟩
    · rcases hp2 with ⟨q1, q2, rfl, rfl, rfl, rfl⟩ | ⟨q1, -⟩ | ⟨q1, q2, -⟩
      · refine ⟨zIv_thr hI _, rfl, rfl, fun _ => ?_⟩
        obtain ⟨a, ha, ea⟩ := zin_nat o1 (by omega)
        obtain ⟨b, hb2, eb⟩ := zwi_nat o2 (by omega)
        rw [ea, eb, zi_nI (by omega), zi_nI (by omega), h89 a b (by omega) (by omega)]
        rfl
      · exact absurd o1 q1
      · exact absurd ⟨o2.1, zlt8.mpr o2.2⟩ q2
    · rcases hp2 with ⟨q1, -⟩ | ⟨q1, rfl, rfl, rfl, rfl⟩ | ⟨q1, -⟩
      · exact absurd q1 o1
      · exact ⟨zIv_thr (zIv_thr hI _) _, rfl, rfl, fun h => absurd h (by decide)⟩
      · exact absurd q1 o1
    · rcases hp2 with ⟨q1, q2, -⟩ | ⟨q1, -⟩ | ⟨q1, q2, rfl, rfl, rfl, rfl⟩
      · exact absurd ⟨q2.1, zlt8.mp q2.2⟩ o2
      · exact absurd o1 q1
      · exact ⟨zIv_thr (zIv_thr hI _) _, rfl, rfl, fun h => absurd h (by decide)⟩
  obtain ⟨hI2, rfl, e2, e3⟩ := hq
  refine zA_istore_6 dL_law_1256 rfl ?_
  refine zA_aload_2 dL_law_1258 ?_
  refine zA_cVi (ct_rThrown g _ _ r) calX11_thrown stX11_thrown lL_131 dL_law_1259 (by decide) (by simp [Value.category]) rfl hce hsl sh_87 rfl (fun z3 gi3 gl3 gr3 ⟨hz, q1, q2, q3⟩ => ?_)
  rw [hz, q1, q2, q3]
  clear hz q1 q2 q3
  refine zA_iload_5 dL_law_1262 ?_
  refine zA_icmp_eq 1269 dL_law_1264 (by decide) (fun _ => ?_) (fun h => absurd e2 h)
  refine zA_iload_5 dL_law_1269 ?_
  refine zA_if_ne 1286 dL_law_1271 (by decide) (fun _ => ?_) (fun h => ?_)
  · exact zA_goto 1314 dL_law_1286 (by decide) (k _ _ _ _ _ hI2)
  · refine zA_aload_3 dL_law_1274 ?_
    refine zA_iconst (nI 0) dL_law_1275 ic_0 ?_
    refine zA_lald (v := (gl2 135 0)) 0 sh_135 dL_law_1276 rfl (by decide) (by decide) rfl ?_
    refine zA_iload_6 dL_law_1277 ?_
    refine zA_i2l dL_law_1279 ?_
    refine zA_lcmp dL_law_1280 ?_
    exact zA_if_eq 1286 dL_law_1281 (by decide) (fun _ => zA_goto 1314 dL_law_1286 (by decide) (k _ _ _ _ _ hI2)) (fun q => absurd (by rw [e3 h]; exact lg_cmp_self _) q)
theorem lw_loop {x : zm_X} {g : zm_G} {Q : State → Prop} {n : Nat} {xs : Nat → Int32} (hl : x.l.stackTraces = false) (hX : zm_GX g x.s) (hLX : zLX x.s) (hS : zSc g x n xs) (hn : n ≤ 4096) (hend : ∀ i a5 a6 gi gl r, zA x g mL_law 13 601024 7293034 Q 601024 7293034 1320 [some (.ref ((zm_cB + 12))), some (.ref 0), some (.ref 87), some (.ref 135), some (.int (nI i)), a5, a6] [] (zSH, gi, gl, zRT r)) : ∀ (m i : Nat) (a5 a6 : Option Value) gi gl r, zIv gi → i ≤ 4104 → n < i + 8 + 8 * m → zA x g mL_law 13 601024 7293034 Q (200 + i) (10000 + 6 * i) 23 [some (.ref ((zm_cB + 12))), some (.ref 0), some (.ref 87), some (.ref 135), some (.int (nI i)), a5, a6] [] (zSH, gi, gl, zRT r) := by
  have hb : n < 2 ^ 31 := by omega
  intro m
  induction m with
  | zero =>
    intro i a5 a6 gi gl r hI hi hm
    refine zA_iload_4 dL_law_23 ?_
    refine zA_aload_0 dL_law_25 ?_
    refine zA_slen hS dL_law_26 ?_
    refine zA_bipush (nI 8) dL_law_27 bc_8 ?_
    refine zA_isub dL_law_29 ?_
    refine zA_icmp_gt 1320 dL_law_30 (by decide) (fun _ => zA_widen (by omega) (by omega) (hend _ _ _ _ _ _)) (fun h => ?_)
    have hi8 := zlc hn h (by omega)
    omega
  | succ m ih =>
    intro i a5 a6 gi gl r hI hi hm
    refine zA_iload_4 dL_law_23 ?_
    refine zA_aload_0 dL_law_25 ?_
    refine zA_slen hS dL_law_26 ?_
    refine zA_bipush (nI 8) dL_law_27 bc_8 ?_
    refine zA_isub dL_law_29 ?_
    refine zA_icmp_gt 1320 dL_law_30 (by decide) (fun _ => zA_widen (by omega) (by omega) (hend _ _ _ _ _ _)) (fun h => ?_)
    have hi8 := zlc hn h (by omega)
    refine zA_aload_0 dL_law_33 ?_
    refine zA_iload_4 dL_law_34 ?_
    refine zA_sld hS (i) rfl (by omega) hb dL_law_36 ?_
    refine zA_bipush (nI 31) dL_law_37 bc_31 ?_
    refine zA_iand dL_law_39 ?_
    have back : ∀ (c s : Nat), c ≤ 200 + (i + 8) → s ≤ 10000 + 6 * (i + 8) → ∀ (a5' a6' : Option Value) gi' gl' r', zIv gi' → zA x g mL_law 13 601024 7293034 Q c s 1314 [some (.ref ((zm_cB + 12))), some (.ref 0), some (.ref 87), some (.ref 135), some (.int (nI i)), a5', a6'] [] (zSH, gi', gl', zRT r') := fun c s hc hs a5' a6' gi' gl' r' hI' =>
      zA_iinc_4 (v := nI (i + 8)) dL_law_1314 (zn_incN _ 8 (by decide)) rfl (zA_goto 23 dL_law_1317 (by decide) (zA_widen hc hs (ih (i + 8) a5' a6' gi' gl' r' hI' (by omega) (by omega))))
    obtain ⟨kk, hk, e⟩ := zand31 (xs i)
    rw [e]
    have hc : kk = 0 ∨ kk = 1 ∨ kk = 2 ∨ kk = 3 ∨ kk = 4 ∨ kk = 5 ∨ kk = 6 ∨ kk = 7 ∨ kk = 8 ∨ kk = 9 ∨ kk = 10 ∨ kk = 11 ∨ kk = 12 ∨ kk = 13 ∨ kk = 14 ∨ kk = 15 ∨ kk = 16 ∨ kk = 17 ∨ kk = 18 ∨ kk = 19 ∨ kk = 20 ∨ kk = 21 ∨ kk = 22 ∨ kk = 23 ∨ kk = 24 ∨ kk = 25 ∨ kk = 26 ∨ kk = 27 ∨ kk = 28 ∨ kk = 29 ∨ kk = 30 ∨ kk = 31 := by omega
    rcases hc with rfl | rfl | rfl | rfl | rfl | rfl | rfl | rfl | rfl | rfl | rfl | rfl | rfl | rfl | rfl | rfl | rfl | rfl | rfl | rfl | rfl | rfl | rfl | rfl | rfl | rfl | rfl | rfl | rfl | rfl | rfl | rfl
    · exact zA_tableIn 160 dL_law_40 (by decide) (by decide) (by rfl) (by decide) (lc_feed hS (by omega) hI hi8 (by omega) (by omega) (back _ _ (by omega) (by omega) _ _))
    · exact zA_tableIn 233 dL_law_40 (by decide) (by decide) (by rfl) (by decide) (lc_terms hS (by omega) hI hi8 (by omega) (by omega) (back _ _ (by omega) (by omega) _ _))
    · exact zA_tableIn 258 dL_law_40 (by decide) (by decide) (by rfl) (by decide) (lc_fault hS (by omega) hI hi8 (by omega) (by omega) (back _ _ (by omega) (by omega) _ _))
    · exact zA_tableIn 283 dL_law_40 (by decide) (by decide) (by rfl) (by decide) (lc_village hS (by omega) hI hi8 (by omega) (by omega) (back _ _ (by omega) (by omega) _ _))
    · exact zA_tableIn 344 dL_law_40 (by decide) (by decide) (by rfl) (by decide) (lc_like hS (by omega) hI hi8 (by omega) (by omega) (back _ _ (by omega) (by omega) _ _))
    · exact zA_tableIn 393 dL_law_40 (by decide) (by decide) (by rfl) (by decide) (lc_road hS (by omega) hI hi8 (by omega) (by omega) (back _ _ (by omega) (by omega) _ _))
    · exact zA_tableIn 454 dL_law_40 (by decide) (by decide) (by rfl) (by decide) (lc_van hS (by omega) hI hi8 (by omega) (by omega) (back _ _ (by omega) (by omega) _ _))
    · exact zA_tableIn 479 dL_law_40 (by decide) (by decide) (by rfl) (by decide) (lc_broken hS (by omega) hI hi8 (by omega) (by omega) (back _ _ (by omega) (by omega) _ _))
    · exact zA_tableIn 516 dL_law_40 (by decide) (by decide) (by rfl) (by decide) (lc_print hS (by omega) hI hi8 (by omega) (by omega) (back _ _ (by omega) (by omega) _ _))
    · exact zA_tableIn 617 dL_law_40 (by decide) (by decide) (by rfl) (by decide) (lc_egg hS (by omega) hI hi8 (by omega) (by omega) (back _ _ (by omega) (by omega) _ _))
    · exact zA_tableIn 654 dL_law_40 (by decide) (by decide) (by rfl) (by decide) (lc_way hS (by omega) hI hi8 (by omega) (by omega) (back _ _ (by omega) (by omega) _ _))
    · exact zA_tableIn 703 dL_law_40 (by decide) (by decide) (by rfl) (by decide) (lc_entry hS (by omega) hI hi8 (by omega) (by omega) (back _ _ (by omega) (by omega) _ _))
    · exact zA_tableIn 764 dL_law_40 (by decide) (by decide) (by rfl) (by decide) (lc_hand hS (by omega) hI hi8 (by omega) (by omega) (back _ _ (by omega) (by omega) _ _))
    · exact zA_tableIn 813 dL_law_40 (by decide) (by decide) (by rfl) (by decide) (lc_clear hS (by omega) hI hi8 (by omega) (by omega) (back _ _ (by omega) (by omega) _ _))
    · exact zA_tableIn 838 dL_law_40 (by decide) (by decide) (by rfl) (by decide) (lc_shown hS (by omega) hI hi8 (by omega) (by omega) (back _ _ (by omega) (by omega) _ _))
    · exact zA_tableIn 887 dL_law_40 (by decide) (by decide) (by rfl) (by decide) (lc_run hS (by omega) hI hi8 (by omega) (by omega) (back _ _ (by omega) (by omega) _ _))
    · exact zA_tableIn 924 dL_law_40 (by decide) (by decide) (by rfl) (by decide) (lc_where hS (by omega) hI hi8 (by omega) (by omega) (back _ _ (by omega) (by omega) _ _))
    · exact zA_tableIn 973 dL_law_40 (by decide) (by decide) (by rfl) (by decide) (lc_printed hS (by omega) hI hi8 (by omega) (by omega) (back _ _ (by omega) (by omega) _ _))
    · exact zA_tableIn 1022 dL_law_40 (by decide) (by decide) (by rfl) (by decide) (lc_expected hS (by omega) hI hi8 (by omega) (by omega) (back _ _ (by omega) (by omega) _ _))
    · exact zA_tableIn 1048 dL_law_40 (by decide) (by decide) (by rfl) (by decide) (lc_round hS (by omega) hI hi8 (by omega) (by omega) (back _ _ (by omega) (by omega) _ _))
    · exact zA_tableIn 1085 dL_law_40 (by decide) (by decide) (by rfl) (by decide) (lc_rounded hS (by omega) hI hi8 (by omega) (by omega) (back _ _ (by omega) (by omega) _ _))
    · exact zA_tableIn 1110 dL_law_40 (by decide) (by decide) (by rfl) (by decide) (lc_report hS (by omega) hI hi8 (by omega) (by omega) (back _ _ (by omega) (by omega) _ _))
    · exact zA_tableIn 1159 dL_law_40 (by decide) (by decide) (by rfl) (by decide) (lc_strike hS (by omega) hI hi8 (by omega) (by omega) (back _ _ (by omega) (by omega) _ _))
    · exact zA_tableIn 1184 dL_law_40 (by decide) (by decide) (by rfl) (by decide) (lc_ends hS (by omega) hI hi8 (by omega) (by omega) (back _ _ (by omega) (by omega) _ _))
    · exact zA_tableIn 1221 dL_law_40 (by decide) (by decide) (by rfl) (by decide) (lc_look hl hX hLX hS (by omega) hI hi8 (by omega) (by omega) (fun a5' a6' gi' gl' r' h => back _ _ (by omega) (by omega) a5' a6' gi' gl' r' h))
    · exact zA_tableIn 1289 dL_law_40 (by decide) (by decide) (by rfl) (by decide) (lc_count hS (by omega) hI hi8 (by omega) (by omega) (back _ _ (by omega) (by omega) _ _))
    · exact zA_tableOut 1314 dL_law_40 (by decide) (by decide) (back _ _ (by omega) (by omega) _ _ _ _ _ hI)
    · exact zA_tableOut 1314 dL_law_40 (by decide) (by decide) (back _ _ (by omega) (by omega) _ _ _ _ _ hI)
    · exact zA_tableOut 1314 dL_law_40 (by decide) (by decide) (back _ _ (by omega) (by omega) _ _ _ _ _ hI)
    · exact zA_tableOut 1314 dL_law_40 (by decide) (by decide) (back _ _ (by omega) (by omega) _ _ _ _ _ hI)
    · exact zA_tableOut 1314 dL_law_40 (by decide) (by decide) (back _ _ (by omega) (by omega) _ _ _ _ _ hI)
    · exact zA_tableOut 1314 dL_law_40 (by decide) (by decide) (back _ _ (by omega) (by omega) _ _ _ _ _ hI)
