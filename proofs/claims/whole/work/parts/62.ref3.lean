def rCnt (M : zm_I) (k : Nat) : Int32 := match k with
  | 0 => M 87 3 | 1 => M 87 5 | 2 => M 87 10 | 3 => M 87 12 | 4 => M 87 15 | 5 => M 87 18 | 6 => M 87 20 | 7 => M 87 22 | 8 => M 107 0 | 9 => M 107 1 | _ => M 87 46
theorem ct_rCount (g : zm_G) (gi : zm_I) (gl : zm_J) (r : Nat) (a : Int32)  : zC_i g yX11_count mX11_count 0 [.ref 87, .int a] zSH gi gl (zRT r) (fun z gi' gl' gr' => ((∃ k, k ≤ 10 ∧ a = nI k ∧ z = rCnt gi k) ∧ gi' = zs gi 87 2 (nI 0) ∧ gl' = gl ∧ gr' = zRT r) ∨ ((a.toInt < 0 ∨ 10 < a.toInt) ∧ z = -1 ∧ gi' = zs gi 87 2 (nI 0) ∧ gl' = gl ∧ gr' = zRT r)) := by
  refine zC_i_of [some (.ref 87), some (.int a)] (by decide) rfl rfl (Nat.le_of_ble_eq_true rfl) (fun x => ?_)
  refine zA_aload_0 dX11_count_0 ?_
  refine zA_iconst (nI 0) dX11_count_1 ic_0 ?_
  refine zS_putI sh_87 fX11_163 dX11_count_2 rfl rfl ?_
  refine zA_iload_1 dX11_count_5 ?_
  rcases zwi_dec 10 a (by decide) with ⟨k, hk, rfl⟩ | hq
  · rcases (show k = 0 ∨ k = 1 ∨ k = 2 ∨ k = 3 ∨ k = 4 ∨ k = 5 ∨ k = 6 ∨ k = 7 ∨ k = 8 ∨ k = 9 ∨ k = 10 by omega) with rfl | rfl | rfl | rfl | rfl | rfl | rfl | rfl | rfl | rfl | rfl
    · refine zA_tableIn 64 dX11_count_6 (by decide) (by decide) (off := 58) (by decide) (by decide) ?_
      refine zA_aload_0 dX11_count_64 ?_
      refine zA_getI (v := (gi 87 3)) sh_87 fX11_169 dX11_count_65 rfl rfl ?_
      exact zB_iret rfl dX11_count_68 (Or.inl ⟨⟨0, by decide, rfl, rfl⟩, rfl, rfl, rfl⟩)
    · refine zA_tableIn 69 dX11_count_6 (by decide) (by decide) (off := 63) (by decide) (by decide) ?_
      refine zA_aload_0 dX11_count_69 ?_
      refine zA_getI (v := (gi 87 5)) sh_87 fX11_180 dX11_count_70 rfl rfl ?_
      exact zB_iret rfl dX11_count_73 (Or.inl ⟨⟨1, by decide, rfl, rfl⟩, rfl, rfl, rfl⟩)
    · refine zA_tableIn 74 dX11_count_6 (by decide) (by decide) (off := 68) (by decide) (by decide) ?_
      refine zA_aload_0 dX11_count_74 ?_
      refine zA_getI (v := (gi 87 10)) sh_87 fX11_183 dX11_count_75 rfl rfl ?_
      exact zB_iret rfl dX11_count_78 (Or.inl ⟨⟨2, by decide, rfl, rfl⟩, rfl, rfl, rfl⟩)
    · refine zA_tableIn 79 dX11_count_6 (by decide) (by decide) (off := 73) (by decide) (by decide) ?_
      refine zA_aload_0 dX11_count_79 ?_
      refine zA_getI (v := (gi 87 12)) sh_87 fX11_186 dX11_count_80 rfl rfl ?_
      exact zB_iret rfl dX11_count_83 (Or.inl ⟨⟨3, by decide, rfl, rfl⟩, rfl, rfl, rfl⟩)
    · refine zA_tableIn 84 dX11_count_6 (by decide) (by decide) (off := 78) (by decide) (by decide) ?_
      refine zA_aload_0 dX11_count_84 ?_
      refine zA_getI (v := (gi 87 15)) sh_87 fX11_192 dX11_count_85 rfl rfl ?_
      exact zB_iret rfl dX11_count_88 (Or.inl ⟨⟨4, by decide, rfl, rfl⟩, rfl, rfl, rfl⟩)
    · refine zA_tableIn 89 dX11_count_6 (by decide) (by decide) (off := 83) (by decide) (by decide) ?_
      refine zA_aload_0 dX11_count_89 ?_
      refine zA_getI (v := (gi 87 18)) sh_87 fX11_202 dX11_count_90 rfl rfl ?_
      exact zB_iret rfl dX11_count_93 (Or.inl ⟨⟨5, by decide, rfl, rfl⟩, rfl, rfl, rfl⟩)
    · refine zA_tableIn 94 dX11_count_6 (by decide) (by decide) (off := 88) (by decide) (by decide) ?_
      refine zA_aload_0 dX11_count_94 ?_
      refine zA_getI (v := (gi 87 20)) sh_87 fX11_212 dX11_count_95 rfl rfl ?_
      exact zB_iret rfl dX11_count_98 (Or.inl ⟨⟨6, by decide, rfl, rfl⟩, rfl, rfl, rfl⟩)
    · refine zA_tableIn 99 dX11_count_6 (by decide) (by decide) (off := 93) (by decide) (by decide) ?_
      refine zA_aload_0 dX11_count_99 ?_
      refine zA_getI (v := (gi 87 22)) sh_87 fX11_436 dX11_count_100 rfl rfl ?_
      exact zB_iret rfl dX11_count_103 (Or.inl ⟨⟨7, by decide, rfl, rfl⟩, rfl, rfl, rfl⟩)
    · refine zA_tableIn 104 dX11_count_6 (by decide) (by decide) (off := 98) (by decide) (by decide) ?_
      refine zA_aload_0 dX11_count_104 ?_
      refine zA_getR sh_87 fX11_72 dX11_count_105 rfl (rt_87_36 _) ?_
      refine zA_iload_1 dX11_count_108 ?_
      refine zA_bipush (nI 8) dX11_count_109 bc_8 ?_
      refine zA_isubN dX11_count_111 (by omega) ?_
      refine zA_iald (v := (gi 107 0)) 0 sh_107 dX11_count_112 rfl (by decide) (by decide) rfl ?_
      exact zB_iret rfl dX11_count_113 (Or.inl ⟨⟨8, by decide, rfl, rfl⟩, rfl, rfl, rfl⟩)
    · refine zA_tableIn 104 dX11_count_6 (by decide) (by decide) (off := 98) (by decide) (by decide) ?_
      refine zA_aload_0 dX11_count_104 ?_
      refine zA_getR sh_87 fX11_72 dX11_count_105 rfl (rt_87_36 _) ?_
      refine zA_iload_1 dX11_count_108 ?_
      refine zA_bipush (nI 8) dX11_count_109 bc_8 ?_
      refine zA_isubN dX11_count_111 (by omega) ?_
      refine zA_iald (v := (gi 107 1)) 1 sh_107 dX11_count_112 rfl (by decide) (by decide) rfl ?_
      exact zB_iret rfl dX11_count_113 (Or.inl ⟨⟨9, by decide, rfl, rfl⟩, rfl, rfl, rfl⟩)
    · refine zA_tableIn 114 dX11_count_6 (by decide) (by decide) (off := 108) (by decide) (by decide) ?_
      refine zA_aload_0 dX11_count_114 ?_
      refine zA_getI (v := (gi 87 46)) sh_87 fX11_326 dX11_count_115 rfl rfl ?_
      exact zB_iret rfl dX11_count_118 (Or.inl ⟨⟨10, by decide, rfl, rfl⟩, rfl, rfl, rfl⟩)
  · refine zA_tableOut 119 dX11_count_6 hq (by decide) ?_
    refine zA_iconst (-1) dX11_count_119 ic_m1 ?_
    exact zB_iret rfl dX11_count_120 (Or.inr ⟨hq, rfl, rfl, rfl, rfl⟩)
def rFeed (gi : zm_I) (T : Nat) (a b c d e : Int32) : zm_I := (zs (zs (zs (zs (zs (zs (zs (zs (zs (zs (zs (zs (zs (zs (zs (zs (zs (zs (zs (zs (zs (zs gi 87 2 ((nI 0))) 88 (T + 0) (((a >>> ((nI 24) &&& 31)) &&& (nI 255)))) 88 (T + 1) (((a >>> ((nI 16) &&& 31)) &&& (nI 255)))) 88 (T + 2) (((a >>> ((nI 8) &&& 31)) &&& (nI 255)))) 88 (T + 3) (((a >>> ((nI 0) &&& 31)) &&& (nI 255)))) 88 (T + 4) (((b >>> ((nI 24) &&& 31)) &&& (nI 255)))) 88 (T + 5) (((b >>> ((nI 16) &&& 31)) &&& (nI 255)))) 88 (T + 6) (((b >>> ((nI 8) &&& 31)) &&& (nI 255)))) 88 (T + 7) (((b >>> ((nI 0) &&& 31)) &&& (nI 255)))) 88 (T + 8) (((c >>> ((nI 24) &&& 31)) &&& (nI 255)))) 88 (T + 9) (((c >>> ((nI 16) &&& 31)) &&& (nI 255)))) 88 (T + 10) (((c >>> ((nI 8) &&& 31)) &&& (nI 255)))) 88 (T + 11) (((c >>> ((nI 0) &&& 31)) &&& (nI 255)))) 88 (T + 12) (((d >>> ((nI 24) &&& 31)) &&& (nI 255)))) 88 (T + 13) (((d >>> ((nI 16) &&& 31)) &&& (nI 255)))) 88 (T + 14) (((d >>> ((nI 8) &&& 31)) &&& (nI 255)))) 88 (T + 15) (((d >>> ((nI 0) &&& 31)) &&& (nI 255)))) 88 (T + 16) (((e >>> ((nI 24) &&& 31)) &&& (nI 255)))) 88 (T + 17) (((e >>> ((nI 16) &&& 31)) &&& (nI 255)))) 88 (T + 18) (((e >>> ((nI 8) &&& 31)) &&& (nI 255)))) 88 (T + 19) (((e >>> ((nI 0) &&& 31)) &&& (nI 255)))) 87 1 ((nI (T + 20))))
theorem ct_rFeed (g : zm_G) (gi : zm_I) (gl : zm_J) (r : Nat) {T : Nat} (hT : gi 87 1 = nI T) (hT5 : T ≤ 500) (a b c d e : Int32)  : zC_i g yX11_feed mX11_feed 0 [.ref 87, .int a, .int b, .int c, .int d, .int e] zSH gi gl (zRT r) (fun z gi' gl' gr' => (T + 20 ≤ 500 ∧ z = nI (T + 20) ∧ gi' = rFeed gi T a b c d e ∧ gl' = gl ∧ gr' = zRT r) ∨ (¬ (T + 20 ≤ 500) ∧ z = -1 ∧ gi' = zs gi 87 2 (nI 0) ∧ gl' = gl ∧ gr' = zRT r)) := by
  refine zC_i_of [some (.ref 87), some (.int a), some (.int b), some (.int c), some (.int d), some (.int e), none, none] (by decide) rfl rfl (Nat.le_of_ble_eq_true rfl) (fun x => ?_)
  refine zA_aload_0 dX11_feed_0 ?_
  refine zA_iconst (nI 0) dX11_feed_1 ic_0 ?_
  refine zS_putI sh_87 fX11_163 dX11_feed_2 rfl rfl ?_
  refine zA_aload_0 dX11_feed_5 ?_
  refine zA_getI (v := (nI T)) sh_87 fX11_166 dX11_feed_6 rfl hT ?_
  refine zA_bipush (nI 20) dX11_feed_9 bc_20 ?_
  refine zA_iaddN dX11_feed_11 ?_
  refine zA_sipush (nI 500) dX11_feed_12 sc_500 ?_
  refine zA_icmp_leN 20 dX11_feed_15 (by decide) (by omega) (by omega) (fun g0 => ?_) (fun g0 => ?_)
  · refine zA_iconst (nI 0) dX11_feed_20 ic_0 ?_
    refine zA_istore_6 dX11_feed_21 rfl ?_
    refine zA_iload_6 dX11_feed_23 ?_
    refine zA_bipush (nI 20) dX11_feed_25 bc_20 ?_
    refine zA_icmp_geN 113 dX11_feed_27 (by decide) (by decide) (by decide) (fun hh => absurd hh (by decide)) (fun _ => ?_)
    refine zA_iload_6 dX11_feed_30 ?_
    refine zA_iconst (nI 4) dX11_feed_32 ic_4 ?_
    refine zA_icmp_geN 40 dX11_feed_33 (by decide) (by decide) (by decide) (fun hh => absurd hh (by decide)) (fun _ => ?_)
    refine zA_iload_1 dX11_feed_36 ?_
    refine zA_goto 76 dX11_feed_37 (by decide) ?_
    refine zA_istore_7 dX11_feed_76 rfl ?_
    refine zA_aload_0 dX11_feed_78 ?_
    refine zA_getR sh_87 fX11_7 dX11_feed_79 rfl (rt_87_0 _) ?_
    refine zA_aload_0 dX11_feed_82 ?_
    refine zA_getI (v := (nI T)) sh_87 fX11_166 dX11_feed_83 rfl hT ?_
    refine zA_iload_6 dX11_feed_86 ?_
    refine zA_iaddN dX11_feed_88 ?_
    refine zA_iload_7 dX11_feed_89 ?_
    refine zA_bipush (nI 24) dX11_feed_91 bc_24 ?_
    refine zA_bipush (nI 8) dX11_feed_93 bc_8 ?_
    refine zA_iload_6 dX11_feed_95 ?_
    refine zA_iconst (nI 4) dX11_feed_97 ic_4 ?_
    refine zA_iremN dX11_feed_98 (by omega) (by omega) (by omega) ?_
    refine zA_imulN dX11_feed_99 ?_
    refine zA_isubN dX11_feed_100 (by omega) ?_
    refine zA_ishr dX11_feed_101 ?_
    refine zA_sipush (nI 255) dX11_feed_102 sc_255 ?_
    refine zA_iand dX11_feed_105 ?_
    refine zS_iast (T + 0) sh_88 dX11_feed_106 rfl (by omega) (by decide) ?_
    refine zA_iinc_6 (v := nI (0 + 1)) dX11_feed_107 (zn_inc _) rfl ?_
    refine zA_goto 23 dX11_feed_110 (by decide) ?_
    refine zA_iload_6 dX11_feed_23 ?_
    refine zA_bipush (nI 20) dX11_feed_25 bc_20 ?_
    refine zA_icmp_geN 113 dX11_feed_27 (by decide) (by decide) (by decide) (fun hh => absurd hh (by decide)) (fun _ => ?_)
    refine zA_iload_6 dX11_feed_30 ?_
    refine zA_iconst (nI 4) dX11_feed_32 ic_4 ?_
    refine zA_icmp_geN 40 dX11_feed_33 (by decide) (by decide) (by decide) (fun hh => absurd hh (by decide)) (fun _ => ?_)
    refine zA_iload_1 dX11_feed_36 ?_
    refine zA_goto 76 dX11_feed_37 (by decide) ?_
    refine zA_istore_7 dX11_feed_76 rfl ?_
    refine zA_aload_0 dX11_feed_78 ?_
    refine zA_getR sh_87 fX11_7 dX11_feed_79 rfl (rt_87_0 _) ?_
    refine zA_aload_0 dX11_feed_82 ?_
    refine zA_getI (v := (nI T)) sh_87 fX11_166 dX11_feed_83 rfl hT ?_
    refine zA_iload_6 dX11_feed_86 ?_
    refine zA_iaddN dX11_feed_88 ?_
    refine zA_iload_7 dX11_feed_89 ?_
    refine zA_bipush (nI 24) dX11_feed_91 bc_24 ?_
    refine zA_bipush (nI 8) dX11_feed_93 bc_8 ?_
    refine zA_iload_6 dX11_feed_95 ?_
    refine zA_iconst (nI 4) dX11_feed_97 ic_4 ?_
    refine zA_iremN dX11_feed_98 (by omega) (by omega) (by omega) ?_
    refine zA_imulN dX11_feed_99 ?_
    refine zA_isubN dX11_feed_100 (by omega) ?_
    refine zA_ishr dX11_feed_101 ?_
    refine zA_sipush (nI 255) dX11_feed_102 sc_255 ?_
    refine zA_iand dX11_feed_105 ?_
    refine zS_iast (T + 1) sh_88 dX11_feed_106 rfl (by omega) (by decide) ?_
    refine zA_iinc_6 (v := nI (1 + 1)) dX11_feed_107 (zn_inc _) rfl ?_
    refine zA_goto 23 dX11_feed_110 (by decide) ?_
    refine zA_iload_6 dX11_feed_23 ?_
    refine zA_bipush (nI 20) dX11_feed_25 bc_20 ?_
    refine zA_icmp_geN 113 dX11_feed_27 (by decide) (by decide) (by decide) (fun hh => absurd hh (by decide)) (fun _ => ?_)
    refine zA_iload_6 dX11_feed_30 ?_
    refine zA_iconst (nI 4) dX11_feed_32 ic_4 ?_
    refine zA_icmp_geN 40 dX11_feed_33 (by decide) (by decide) (by decide) (fun hh => absurd hh (by decide)) (fun _ => ?_)
    refine zA_iload_1 dX11_feed_36 ?_
    refine zA_goto 76 dX11_feed_37 (by decide) ?_
    refine zA_istore_7 dX11_feed_76 rfl ?_
    refine zA_aload_0 dX11_feed_78 ?_
    refine zA_getR sh_87 fX11_7 dX11_feed_79 rfl (rt_87_0 _) ?_
    refine zA_aload_0 dX11_feed_82 ?_
    refine zA_getI (v := (nI T)) sh_87 fX11_166 dX11_feed_83 rfl hT ?_
    refine zA_iload_6 dX11_feed_86 ?_
    refine zA_iaddN dX11_feed_88 ?_
    refine zA_iload_7 dX11_feed_89 ?_
    refine zA_bipush (nI 24) dX11_feed_91 bc_24 ?_
    refine zA_bipush (nI 8) dX11_feed_93 bc_8 ?_
    refine zA_iload_6 dX11_feed_95 ?_
    refine zA_iconst (nI 4) dX11_feed_97 ic_4 ?_
    refine zA_iremN dX11_feed_98 (by omega) (by omega) (by omega) ?_
    refine zA_imulN dX11_feed_99 ?_
    refine zA_isubN dX11_feed_100 (by omega) ?_
    refine zA_ishr dX11_feed_101 ?_
    refine zA_sipush (nI 255) dX11_feed_102 sc_255 ?_
    refine zA_iand dX11_feed_105 ?_
    refine zS_iast (T + 2) sh_88 dX11_feed_106 rfl (by omega) (by decide) ?_
    refine zA_iinc_6 (v := nI (2 + 1)) dX11_feed_107 (zn_inc _) rfl ?_
    refine zA_goto 23 dX11_feed_110 (by decide) ?_
    refine zA_iload_6 dX11_feed_23 ?_
    refine zA_bipush (nI 20) dX11_feed_25 bc_20 ?_
    refine zA_icmp_geN 113 dX11_feed_27 (by decide) (by decide) (by decide) (fun hh => absurd hh (by decide)) (fun _ => ?_)
    refine zA_iload_6 dX11_feed_30 ?_
    refine zA_iconst (nI 4) dX11_feed_32 ic_4 ?_
    refine zA_icmp_geN 40 dX11_feed_33 (by decide) (by decide) (by decide) (fun hh => absurd hh (by decide)) (fun _ => ?_)
    refine zA_iload_1 dX11_feed_36 ?_
    refine zA_goto 76 dX11_feed_37 (by decide) ?_
    refine zA_istore_7 dX11_feed_76 rfl ?_
    refine zA_aload_0 dX11_feed_78 ?_
    refine zA_getR sh_87 fX11_7 dX11_feed_79 rfl (rt_87_0 _) ?_
    refine zA_aload_0 dX11_feed_82 ?_
    refine zA_getI (v := (nI T)) sh_87 fX11_166 dX11_feed_83 rfl hT ?_
    refine zA_iload_6 dX11_feed_86 ?_
    refine zA_iaddN dX11_feed_88 ?_
    refine zA_iload_7 dX11_feed_89 ?_
    refine zA_bipush (nI 24) dX11_feed_91 bc_24 ?_
    refine zA_bipush (nI 8) dX11_feed_93 bc_8 ?_
    refine zA_iload_6 dX11_feed_95 ?_
    refine zA_iconst (nI 4) dX11_feed_97 ic_4 ?_
    refine zA_iremN dX11_feed_98 (by omega) (by omega) (by omega) ?_
    refine zA_imulN dX11_feed_99 ?_
    refine zA_isubN dX11_feed_100 (by omega) ?_
    refine zA_ishr dX11_feed_101 ?_
    refine zA_sipush (nI 255) dX11_feed_102 sc_255 ?_
    refine zA_iand dX11_feed_105 ?_
    refine zS_iast (T + 3) sh_88 dX11_feed_106 rfl (by omega) (by decide) ?_
    refine zA_iinc_6 (v := nI (3 + 1)) dX11_feed_107 (zn_inc _) rfl ?_
    refine zA_goto 23 dX11_feed_110 (by decide) ?_
    refine zA_iload_6 dX11_feed_23 ?_
    refine zA_bipush (nI 20) dX11_feed_25 bc_20 ?_
    refine zA_icmp_geN 113 dX11_feed_27 (by decide) (by decide) (by decide) (fun hh => absurd hh (by decide)) (fun _ => ?_)
    refine zA_iload_6 dX11_feed_30 ?_
    refine zA_iconst (nI 4) dX11_feed_32 ic_4 ?_
    refine zA_icmp_geN 40 dX11_feed_33 (by decide) (by decide) (by decide) (fun _ => ?_) (fun hh => absurd hh (by decide))
    refine zA_iload_6 dX11_feed_40 ?_
    refine zA_bipush (nI 8) dX11_feed_42 bc_8 ?_
    refine zA_icmp_geN 51 dX11_feed_44 (by decide) (by decide) (by decide) (fun hh => absurd hh (by decide)) (fun _ => ?_)
    refine zA_iload_2 dX11_feed_47 ?_
    refine zA_goto 76 dX11_feed_48 (by decide) ?_
    refine zA_istore_7 dX11_feed_76 rfl ?_
    refine zA_aload_0 dX11_feed_78 ?_
    refine zA_getR sh_87 fX11_7 dX11_feed_79 rfl (rt_87_0 _) ?_
    refine zA_aload_0 dX11_feed_82 ?_
    refine zA_getI (v := (nI T)) sh_87 fX11_166 dX11_feed_83 rfl hT ?_
    refine zA_iload_6 dX11_feed_86 ?_
    refine zA_iaddN dX11_feed_88 ?_
    refine zA_iload_7 dX11_feed_89 ?_
    refine zA_bipush (nI 24) dX11_feed_91 bc_24 ?_
    refine zA_bipush (nI 8) dX11_feed_93 bc_8 ?_
    refine zA_iload_6 dX11_feed_95 ?_
    refine zA_iconst (nI 4) dX11_feed_97 ic_4 ?_
    refine zA_iremN dX11_feed_98 (by omega) (by omega) (by omega) ?_
    refine zA_imulN dX11_feed_99 ?_
    refine zA_isubN dX11_feed_100 (by omega) ?_
    refine zA_ishr dX11_feed_101 ?_
    refine zA_sipush (nI 255) dX11_feed_102 sc_255 ?_
    refine zA_iand dX11_feed_105 ?_
    refine zS_iast (T + 4) sh_88 dX11_feed_106 rfl (by omega) (by decide) ?_
    refine zA_iinc_6 (v := nI (4 + 1)) dX11_feed_107 (zn_inc _) rfl ?_
    refine zA_goto 23 dX11_feed_110 (by decide) ?_
    refine zA_iload_6 dX11_feed_23 ?_
    refine zA_bipush (nI 20) dX11_feed_25 bc_20 ?_
    refine zA_icmp_geN 113 dX11_feed_27 (by decide) (by decide) (by decide) (fun hh => absurd hh (by decide)) (fun _ => ?_)
    refine zA_iload_6 dX11_feed_30 ?_
    refine zA_iconst (nI 4) dX11_feed_32 ic_4 ?_
    refine zA_icmp_geN 40 dX11_feed_33 (by decide) (by decide) (by decide) (fun _ => ?_) (fun hh => absurd hh (by decide))
    refine zA_iload_6 dX11_feed_40 ?_
    refine zA_bipush (nI 8) dX11_feed_42 bc_8 ?_
    refine zA_icmp_geN 51 dX11_feed_44 (by decide) (by decide) (by decide) (fun hh => absurd hh (by decide)) (fun _ => ?_)
    refine zA_iload_2 dX11_feed_47 ?_
    refine zA_goto 76 dX11_feed_48 (by decide) ?_
    refine zA_istore_7 dX11_feed_76 rfl ?_
    refine zA_aload_0 dX11_feed_78 ?_
    refine zA_getR sh_87 fX11_7 dX11_feed_79 rfl (rt_87_0 _) ?_
    refine zA_aload_0 dX11_feed_82 ?_
    refine zA_getI (v := (nI T)) sh_87 fX11_166 dX11_feed_83 rfl hT ?_
    refine zA_iload_6 dX11_feed_86 ?_
    refine zA_iaddN dX11_feed_88 ?_
    refine zA_iload_7 dX11_feed_89 ?_
    refine zA_bipush (nI 24) dX11_feed_91 bc_24 ?_
    refine zA_bipush (nI 8) dX11_feed_93 bc_8 ?_
    refine zA_iload_6 dX11_feed_95 ?_
    refine zA_iconst (nI 4) dX11_feed_97 ic_4 ?_
    refine zA_iremN dX11_feed_98 (by omega) (by omega) (by omega) ?_
    refine zA_imulN dX11_feed_99 ?_
    refine zA_isubN dX11_feed_100 (by omega) ?_
    refine zA_ishr dX11_feed_101 ?_
    refine zA_sipush (nI 255) dX11_feed_102 sc_255 ?_
    refine zA_iand dX11_feed_105 ?_
    refine zS_iast (T + 5) sh_88 dX11_feed_106 rfl (by omega) (by decide) ?_
    refine zA_iinc_6 (v := nI (5 + 1)) dX11_feed_107 (zn_inc _) rfl ?_
    refine zA_goto 23 dX11_feed_110 (by decide) ?_
    refine zA_iload_6 dX11_feed_23 ?_
    refine zA_bipush (nI 20) dX11_feed_25 bc_20 ?_
    refine zA_icmp_geN 113 dX11_feed_27 (by decide) (by decide) (by decide) (fun hh => absurd hh (by decide)) (fun _ => ?_)
    refine zA_iload_6 dX11_feed_30 ?_
    refine zA_iconst (nI 4) dX11_feed_32 ic_4 ?_
    refine zA_icmp_geN 40 dX11_feed_33 (by decide) (by decide) (by decide) (fun _ => ?_) (fun hh => absurd hh (by decide))
    refine zA_iload_6 dX11_feed_40 ?_
    refine zA_bipush (nI 8) dX11_feed_42 bc_8 ?_
    refine zA_icmp_geN 51 dX11_feed_44 (by decide) (by decide) (by decide) (fun hh => absurd hh (by decide)) (fun _ => ?_)
    refine zA_iload_2 dX11_feed_47 ?_
    refine zA_goto 76 dX11_feed_48 (by decide) ?_
    refine zA_istore_7 dX11_feed_76 rfl ?_
    refine zA_aload_0 dX11_feed_78 ?_
    refine zA_getR sh_87 fX11_7 dX11_feed_79 rfl (rt_87_0 _) ?_
    refine zA_aload_0 dX11_feed_82 ?_
    refine zA_getI (v := (nI T)) sh_87 fX11_166 dX11_feed_83 rfl hT ?_
    refine zA_iload_6 dX11_feed_86 ?_
    refine zA_iaddN dX11_feed_88 ?_
    refine zA_iload_7 dX11_feed_89 ?_
    refine zA_bipush (nI 24) dX11_feed_91 bc_24 ?_
    refine zA_bipush (nI 8) dX11_feed_93 bc_8 ?_
    refine zA_iload_6 dX11_feed_95 ?_
    refine zA_iconst (nI 4) dX11_feed_97 ic_4 ?_
    refine zA_iremN dX11_feed_98 (by omega) (by omega) (by omega) ?_
    refine zA_imulN dX11_feed_99 ?_
    refine zA_isubN dX11_feed_100 (by omega) ?_
    refine zA_ishr dX11_feed_101 ?_
    refine zA_sipush (nI 255) dX11_feed_102 sc_255 ?_
    refine zA_iand dX11_feed_105 ?_
    refine zS_iast (T + 6) sh_88 dX11_feed_106 rfl (by omega) (by decide) ?_
    refine zA_iinc_6 (v := nI (6 + 1)) dX11_feed_107 (zn_inc _) rfl ?_
    refine zA_goto 23 dX11_feed_110 (by decide) ?_
    refine zA_iload_6 dX11_feed_23 ?_
    refine zA_bipush (nI 20) dX11_feed_25 bc_20 ?_
    refine zA_icmp_geN 113 dX11_feed_27 (by decide) (by decide) (by decide) (fun hh => absurd hh (by decide)) (fun _ => ?_)
    refine zA_iload_6 dX11_feed_30 ?_
    refine zA_iconst (nI 4) dX11_feed_32 ic_4 ?_
    refine zA_icmp_geN 40 dX11_feed_33 (by decide) (by decide) (by decide) (fun _ => ?_) (fun hh => absurd hh (by decide))
    refine zA_iload_6 dX11_feed_40 ?_
    refine zA_bipush (nI 8) dX11_feed_42 bc_8 ?_
    refine zA_icmp_geN 51 dX11_feed_44 (by decide) (by decide) (by decide) (fun hh => absurd hh (by decide)) (fun _ => ?_)
    refine zA_iload_2 dX11_feed_47 ?_
    refine zA_goto 76 dX11_feed_48 (by decide) ?_
    refine zA_istore_7 dX11_feed_76 rfl ?_
    refine zA_aload_0 dX11_feed_78 ?_
    refine zA_getR sh_87 fX11_7 dX11_feed_79 rfl (rt_87_0 _) ?_
    refine zA_aload_0 dX11_feed_82 ?_
    refine zA_getI (v := (nI T)) sh_87 fX11_166 dX11_feed_83 rfl hT ?_
    refine zA_iload_6 dX11_feed_86 ?_
    refine zA_iaddN dX11_feed_88 ?_
    refine zA_iload_7 dX11_feed_89 ?_
    refine zA_bipush (nI 24) dX11_feed_91 bc_24 ?_
    refine zA_bipush (nI 8) dX11_feed_93 bc_8 ?_
    refine zA_iload_6 dX11_feed_95 ?_
    refine zA_iconst (nI 4) dX11_feed_97 ic_4 ?_
    refine zA_iremN dX11_feed_98 (by omega) (by omega) (by omega) ?_
    refine zA_imulN dX11_feed_99 ?_
    refine zA_isubN dX11_feed_100 (by omega) ?_
    refine zA_ishr dX11_feed_101 ?_
    refine zA_sipush (nI 255) dX11_feed_102 sc_255 ?_
    refine zA_iand dX11_feed_105 ?_
    refine zS_iast (T + 7) sh_88 dX11_feed_106 rfl (by omega) (by decide) ?_
    refine zA_iinc_6 (v := nI (7 + 1)) dX11_feed_107 (zn_inc _) rfl ?_
    refine zA_goto 23 dX11_feed_110 (by decide) ?_
    refine zA_iload_6 dX11_feed_23 ?_
    refine zA_bipush (nI 20) dX11_feed_25 bc_20 ?_
    refine zA_icmp_geN 113 dX11_feed_27 (by decide) (by decide) (by decide) (fun hh => absurd hh (by decide)) (fun _ => ?_)
    refine zA_iload_6 dX11_feed_30 ?_
    refine zA_iconst (nI 4) dX11_feed_32 ic_4 ?_
    refine zA_icmp_geN 40 dX11_feed_33 (by decide) (by decide) (by decide) (fun _ => ?_) (fun hh => absurd hh (by decide))
    refine zA_iload_6 dX11_feed_40 ?_
    refine zA_bipush (nI 8) dX11_feed_42 bc_8 ?_
    refine zA_icmp_geN 51 dX11_feed_44 (by decide) (by decide) (by decide) (fun _ => ?_) (fun hh => absurd hh (by decide))
    refine zA_iload_6 dX11_feed_51 ?_
    refine zA_bipush (nI 12) dX11_feed_53 bc_12 ?_
    refine zA_icmp_geN 62 dX11_feed_55 (by decide) (by decide) (by decide) (fun hh => absurd hh (by decide)) (fun _ => ?_)
    refine zA_iload_3 dX11_feed_58 ?_
    refine zA_goto 76 dX11_feed_59 (by decide) ?_
    refine zA_istore_7 dX11_feed_76 rfl ?_
    refine zA_aload_0 dX11_feed_78 ?_
    refine zA_getR sh_87 fX11_7 dX11_feed_79 rfl (rt_87_0 _) ?_
    refine zA_aload_0 dX11_feed_82 ?_
    refine zA_getI (v := (nI T)) sh_87 fX11_166 dX11_feed_83 rfl hT ?_
    refine zA_iload_6 dX11_feed_86 ?_
    refine zA_iaddN dX11_feed_88 ?_
    refine zA_iload_7 dX11_feed_89 ?_
    refine zA_bipush (nI 24) dX11_feed_91 bc_24 ?_
    refine zA_bipush (nI 8) dX11_feed_93 bc_8 ?_
    refine zA_iload_6 dX11_feed_95 ?_
    refine zA_iconst (nI 4) dX11_feed_97 ic_4 ?_
    refine zA_iremN dX11_feed_98 (by omega) (by omega) (by omega) ?_
    refine zA_imulN dX11_feed_99 ?_
    refine zA_isubN dX11_feed_100 (by omega) ?_
    refine zA_ishr dX11_feed_101 ?_
    refine zA_sipush (nI 255) dX11_feed_102 sc_255 ?_
    refine zA_iand dX11_feed_105 ?_
    refine zS_iast (T + 8) sh_88 dX11_feed_106 rfl (by omega) (by decide) ?_
    refine zA_iinc_6 (v := nI (8 + 1)) dX11_feed_107 (zn_inc _) rfl ?_
    refine zA_goto 23 dX11_feed_110 (by decide) ?_
    refine zA_iload_6 dX11_feed_23 ?_
    refine zA_bipush (nI 20) dX11_feed_25 bc_20 ?_
    refine zA_icmp_geN 113 dX11_feed_27 (by decide) (by decide) (by decide) (fun hh => absurd hh (by decide)) (fun _ => ?_)
    refine zA_iload_6 dX11_feed_30 ?_
    refine zA_iconst (nI 4) dX11_feed_32 ic_4 ?_
    refine zA_icmp_geN 40 dX11_feed_33 (by decide) (by decide) (by decide) (fun _ => ?_) (fun hh => absurd hh (by decide))
    refine zA_iload_6 dX11_feed_40 ?_
    refine zA_bipush (nI 8) dX11_feed_42 bc_8 ?_
    refine zA_icmp_geN 51 dX11_feed_44 (by decide) (by decide) (by decide) (fun _ => ?_) (fun hh => absurd hh (by decide))
    refine zA_iload_6 dX11_feed_51 ?_
    refine zA_bipush (nI 12) dX11_feed_53 bc_12 ?_
    refine zA_icmp_geN 62 dX11_feed_55 (by decide) (by decide) (by decide) (fun hh => absurd hh (by decide)) (fun _ => ?_)
    refine zA_iload_3 dX11_feed_58 ?_
    refine zA_goto 76 dX11_feed_59 (by decide) ?_
    refine zA_istore_7 dX11_feed_76 rfl ?_
    refine zA_aload_0 dX11_feed_78 ?_
    refine zA_getR sh_87 fX11_7 dX11_feed_79 rfl (rt_87_0 _) ?_
    refine zA_aload_0 dX11_feed_82 ?_
    refine zA_getI (v := (nI T)) sh_87 fX11_166 dX11_feed_83 rfl hT ?_
    refine zA_iload_6 dX11_feed_86 ?_
    refine zA_iaddN dX11_feed_88 ?_
    refine zA_iload_7 dX11_feed_89 ?_
    refine zA_bipush (nI 24) dX11_feed_91 bc_24 ?_
    refine zA_bipush (nI 8) dX11_feed_93 bc_8 ?_
    refine zA_iload_6 dX11_feed_95 ?_
    refine zA_iconst (nI 4) dX11_feed_97 ic_4 ?_
    refine zA_iremN dX11_feed_98 (by omega) (by omega) (by omega) ?_
    refine zA_imulN dX11_feed_99 ?_
    refine zA_isubN dX11_feed_100 (by omega) ?_
    refine zA_ishr dX11_feed_101 ?_
    refine zA_sipush (nI 255) dX11_feed_102 sc_255 ?_
    refine zA_iand dX11_feed_105 ?_
    refine zS_iast (T + 9) sh_88 dX11_feed_106 rfl (by omega) (by decide) ?_
    refine zA_iinc_6 (v := nI (9 + 1)) dX11_feed_107 (zn_inc _) rfl ?_
    refine zA_goto 23 dX11_feed_110 (by decide) ?_
    refine zA_iload_6 dX11_feed_23 ?_
    refine zA_bipush (nI 20) dX11_feed_25 bc_20 ?_
    refine zA_icmp_geN 113 dX11_feed_27 (by decide) (by decide) (by decide) (fun hh => absurd hh (by decide)) (fun _ => ?_)
    refine zA_iload_6 dX11_feed_30 ?_
    refine zA_iconst (nI 4) dX11_feed_32 ic_4 ?_
    refine zA_icmp_geN 40 dX11_feed_33 (by decide) (by decide) (by decide) (fun _ => ?_) (fun hh => absurd hh (by decide))
    refine zA_iload_6 dX11_feed_40 ?_
    refine zA_bipush (nI 8) dX11_feed_42 bc_8 ?_
    refine zA_icmp_geN 51 dX11_feed_44 (by decide) (by decide) (by decide) (fun _ => ?_) (fun hh => absurd hh (by decide))
    refine zA_iload_6 dX11_feed_51 ?_
    refine zA_bipush (nI 12) dX11_feed_53 bc_12 ?_
    refine zA_icmp_geN 62 dX11_feed_55 (by decide) (by decide) (by decide) (fun hh => absurd hh (by decide)) (fun _ => ?_)
    refine zA_iload_3 dX11_feed_58 ?_
    refine zA_goto 76 dX11_feed_59 (by decide) ?_
    refine zA_istore_7 dX11_feed_76 rfl ?_
    refine zA_aload_0 dX11_feed_78 ?_
    refine zA_getR sh_87 fX11_7 dX11_feed_79 rfl (rt_87_0 _) ?_
    refine zA_aload_0 dX11_feed_82 ?_
    refine zA_getI (v := (nI T)) sh_87 fX11_166 dX11_feed_83 rfl hT ?_
    refine zA_iload_6 dX11_feed_86 ?_
    refine zA_iaddN dX11_feed_88 ?_
    refine zA_iload_7 dX11_feed_89 ?_
    refine zA_bipush (nI 24) dX11_feed_91 bc_24 ?_
    refine zA_bipush (nI 8) dX11_feed_93 bc_8 ?_
    refine zA_iload_6 dX11_feed_95 ?_
    refine zA_iconst (nI 4) dX11_feed_97 ic_4 ?_
    refine zA_iremN dX11_feed_98 (by omega) (by omega) (by omega) ?_
    refine zA_imulN dX11_feed_99 ?_
    refine zA_isubN dX11_feed_100 (by omega) ?_
    refine zA_ishr dX11_feed_101 ?_
    refine zA_sipush (nI 255) dX11_feed_102 sc_255 ?_
    refine zA_iand dX11_feed_105 ?_
    refine zS_iast (T + 10) sh_88 dX11_feed_106 rfl (by omega) (by decide) ?_
    refine zA_iinc_6 (v := nI (10 + 1)) dX11_feed_107 (zn_inc _) rfl ?_
    refine zA_goto 23 dX11_feed_110 (by decide) ?_
    refine zA_iload_6 dX11_feed_23 ?_
    refine zA_bipush (nI 20) dX11_feed_25 bc_20 ?_
    refine zA_icmp_geN 113 dX11_feed_27 (by decide) (by decide) (by decide) (fun hh => absurd hh (by decide)) (fun _ => ?_)
    refine zA_iload_6 dX11_feed_30 ?_
    refine zA_iconst (nI 4) dX11_feed_32 ic_4 ?_
    refine zA_icmp_geN 40 dX11_feed_33 (by decide) (by decide) (by decide) (fun _ => ?_) (fun hh => absurd hh (by decide))
    refine zA_iload_6 dX11_feed_40 ?_
    refine zA_bipush (nI 8) dX11_feed_42 bc_8 ?_
    refine zA_icmp_geN 51 dX11_feed_44 (by decide) (by decide) (by decide) (fun _ => ?_) (fun hh => absurd hh (by decide))
    refine zA_iload_6 dX11_feed_51 ?_
    refine zA_bipush (nI 12) dX11_feed_53 bc_12 ?_
    refine zA_icmp_geN 62 dX11_feed_55 (by decide) (by decide) (by decide) (fun hh => absurd hh (by decide)) (fun _ => ?_)
    refine zA_iload_3 dX11_feed_58 ?_
    refine zA_goto 76 dX11_feed_59 (by decide) ?_
    refine zA_istore_7 dX11_feed_76 rfl ?_
    refine zA_aload_0 dX11_feed_78 ?_
    refine zA_getR sh_87 fX11_7 dX11_feed_79 rfl (rt_87_0 _) ?_
    refine zA_aload_0 dX11_feed_82 ?_
    refine zA_getI (v := (nI T)) sh_87 fX11_166 dX11_feed_83 rfl hT ?_
    refine zA_iload_6 dX11_feed_86 ?_
    refine zA_iaddN dX11_feed_88 ?_
    refine zA_iload_7 dX11_feed_89 ?_
    refine zA_bipush (nI 24) dX11_feed_91 bc_24 ?_
    refine zA_bipush (nI 8) dX11_feed_93 bc_8 ?_
    refine zA_iload_6 dX11_feed_95 ?_
    refine zA_iconst (nI 4) dX11_feed_97 ic_4 ?_
    refine zA_iremN dX11_feed_98 (by omega) (by omega) (by omega) ?_
    refine zA_imulN dX11_feed_99 ?_
    refine zA_isubN dX11_feed_100 (by omega) ?_
    refine zA_ishr dX11_feed_101 ?_
    refine zA_sipush (nI 255) dX11_feed_102 sc_255 ?_
    refine zA_iand dX11_feed_105 ?_
    refine zS_iast (T + 11) sh_88 dX11_feed_106 rfl (by omega) (by decide) ?_
    refine zA_iinc_6 (v := nI (11 + 1)) dX11_feed_107 (zn_inc _) rfl ?_
    refine zA_goto 23 dX11_feed_110 (by decide) ?_
    refine zA_iload_6 dX11_feed_23 ?_
    refine zA_bipush (nI 20) dX11_feed_25 bc_20 ?_
    refine zA_icmp_geN 113 dX11_feed_27 (by decide) (by decide) (by decide) (fun hh => absurd hh (by decide)) (fun _ => ?_)
    refine zA_iload_6 dX11_feed_30 ?_
    refine zA_iconst (nI 4) dX11_feed_32 ic_4 ?_
    refine zA_icmp_geN 40 dX11_feed_33 (by decide) (by decide) (by decide) (fun _ => ?_) (fun hh => absurd hh (by decide))
    refine zA_iload_6 dX11_feed_40 ?_
    refine zA_bipush (nI 8) dX11_feed_42 bc_8 ?_
    refine zA_icmp_geN 51 dX11_feed_44 (by decide) (by decide) (by decide) (fun _ => ?_) (fun hh => absurd hh (by decide))
    refine zA_iload_6 dX11_feed_51 ?_
    refine zA_bipush (nI 12) dX11_feed_53 bc_12 ?_
    refine zA_icmp_geN 62 dX11_feed_55 (by decide) (by decide) (by decide) (fun _ => ?_) (fun hh => absurd hh (by decide))
    refine zA_iload_6 dX11_feed_62 ?_
    refine zA_bipush (nI 16) dX11_feed_64 bc_16 ?_
    refine zA_icmp_geN 74 dX11_feed_66 (by decide) (by decide) (by decide) (fun hh => absurd hh (by decide)) (fun _ => ?_)
    refine zA_iload_4 dX11_feed_69 ?_
    refine zA_goto 76 dX11_feed_71 (by decide) ?_
    refine zA_istore_7 dX11_feed_76 rfl ?_
    refine zA_aload_0 dX11_feed_78 ?_
    refine zA_getR sh_87 fX11_7 dX11_feed_79 rfl (rt_87_0 _) ?_
    refine zA_aload_0 dX11_feed_82 ?_
    refine zA_getI (v := (nI T)) sh_87 fX11_166 dX11_feed_83 rfl hT ?_
    refine zA_iload_6 dX11_feed_86 ?_
    refine zA_iaddN dX11_feed_88 ?_
    refine zA_iload_7 dX11_feed_89 ?_
    refine zA_bipush (nI 24) dX11_feed_91 bc_24 ?_
    refine zA_bipush (nI 8) dX11_feed_93 bc_8 ?_
    refine zA_iload_6 dX11_feed_95 ?_
    refine zA_iconst (nI 4) dX11_feed_97 ic_4 ?_
    refine zA_iremN dX11_feed_98 (by omega) (by omega) (by omega) ?_
    refine zA_imulN dX11_feed_99 ?_
    refine zA_isubN dX11_feed_100 (by omega) ?_
    refine zA_ishr dX11_feed_101 ?_
    refine zA_sipush (nI 255) dX11_feed_102 sc_255 ?_
    refine zA_iand dX11_feed_105 ?_
    refine zS_iast (T + 12) sh_88 dX11_feed_106 rfl (by omega) (by decide) ?_
    refine zA_iinc_6 (v := nI (12 + 1)) dX11_feed_107 (zn_inc _) rfl ?_
    refine zA_goto 23 dX11_feed_110 (by decide) ?_
    refine zA_iload_6 dX11_feed_23 ?_
    refine zA_bipush (nI 20) dX11_feed_25 bc_20 ?_
    refine zA_icmp_geN 113 dX11_feed_27 (by decide) (by decide) (by decide) (fun hh => absurd hh (by decide)) (fun _ => ?_)
    refine zA_iload_6 dX11_feed_30 ?_
    refine zA_iconst (nI 4) dX11_feed_32 ic_4 ?_
    refine zA_icmp_geN 40 dX11_feed_33 (by decide) (by decide) (by decide) (fun _ => ?_) (fun hh => absurd hh (by decide))
    refine zA_iload_6 dX11_feed_40 ?_
    refine zA_bipush (nI 8) dX11_feed_42 bc_8 ?_
    refine zA_icmp_geN 51 dX11_feed_44 (by decide) (by decide) (by decide) (fun _ => ?_) (fun hh => absurd hh (by decide))
    refine zA_iload_6 dX11_feed_51 ?_
    refine zA_bipush (nI 12) dX11_feed_53 bc_12 ?_
    refine zA_icmp_geN 62 dX11_feed_55 (by decide) (by decide) (by decide) (fun _ => ?_) (fun hh => absurd hh (by decide))
    refine zA_iload_6 dX11_feed_62 ?_
    refine zA_bipush (nI 16) dX11_feed_64 bc_16 ?_
    refine zA_icmp_geN 74 dX11_feed_66 (by decide) (by decide) (by decide) (fun hh => absurd hh (by decide)) (fun _ => ?_)
    refine zA_iload_4 dX11_feed_69 ?_
    refine zA_goto 76 dX11_feed_71 (by decide) ?_
    refine zA_istore_7 dX11_feed_76 rfl ?_
    refine zA_aload_0 dX11_feed_78 ?_
    refine zA_getR sh_87 fX11_7 dX11_feed_79 rfl (rt_87_0 _) ?_
    refine zA_aload_0 dX11_feed_82 ?_
    refine zA_getI (v := (nI T)) sh_87 fX11_166 dX11_feed_83 rfl hT ?_
    refine zA_iload_6 dX11_feed_86 ?_
    refine zA_iaddN dX11_feed_88 ?_
    refine zA_iload_7 dX11_feed_89 ?_
    refine zA_bipush (nI 24) dX11_feed_91 bc_24 ?_
    refine zA_bipush (nI 8) dX11_feed_93 bc_8 ?_
    refine zA_iload_6 dX11_feed_95 ?_
    refine zA_iconst (nI 4) dX11_feed_97 ic_4 ?_
    refine zA_iremN dX11_feed_98 (by omega) (by omega) (by omega) ?_
    refine zA_imulN dX11_feed_99 ?_
    refine zA_isubN dX11_feed_100 (by omega) ?_
    refine zA_ishr dX11_feed_101 ?_
    refine zA_sipush (nI 255) dX11_feed_102 sc_255 ?_
    refine zA_iand dX11_feed_105 ?_
    refine zS_iast (T + 13) sh_88 dX11_feed_106 rfl (by omega) (by decide) ?_
    refine zA_iinc_6 (v := nI (13 + 1)) dX11_feed_107 (zn_inc _) rfl ?_
    refine zA_goto 23 dX11_feed_110 (by decide) ?_
    refine zA_iload_6 dX11_feed_23 ?_
    refine zA_bipush (nI 20) dX11_feed_25 bc_20 ?_
    refine zA_icmp_geN 113 dX11_feed_27 (by decide) (by decide) (by decide) (fun hh => absurd hh (by decide)) (fun _ => ?_)
    refine zA_iload_6 dX11_feed_30 ?_
    refine zA_iconst (nI 4) dX11_feed_32 ic_4 ?_
    refine zA_icmp_geN 40 dX11_feed_33 (by decide) (by decide) (by decide) (fun _ => ?_) (fun hh => absurd hh (by decide))
    refine zA_iload_6 dX11_feed_40 ?_
    refine zA_bipush (nI 8) dX11_feed_42 bc_8 ?_
    refine zA_icmp_geN 51 dX11_feed_44 (by decide) (by decide) (by decide) (fun _ => ?_) (fun hh => absurd hh (by decide))
    refine zA_iload_6 dX11_feed_51 ?_
    refine zA_bipush (nI 12) dX11_feed_53 bc_12 ?_
    refine zA_icmp_geN 62 dX11_feed_55 (by decide) (by decide) (by decide) (fun _ => ?_) (fun hh => absurd hh (by decide))
    refine zA_iload_6 dX11_feed_62 ?_
    refine zA_bipush (nI 16) dX11_feed_64 bc_16 ?_
    refine zA_icmp_geN 74 dX11_feed_66 (by decide) (by decide) (by decide) (fun hh => absurd hh (by decide)) (fun _ => ?_)
    refine zA_iload_4 dX11_feed_69 ?_
    refine zA_goto 76 dX11_feed_71 (by decide) ?_
    refine zA_istore_7 dX11_feed_76 rfl ?_
    refine zA_aload_0 dX11_feed_78 ?_
    refine zA_getR sh_87 fX11_7 dX11_feed_79 rfl (rt_87_0 _) ?_
    refine zA_aload_0 dX11_feed_82 ?_
    refine zA_getI (v := (nI T)) sh_87 fX11_166 dX11_feed_83 rfl hT ?_
    refine zA_iload_6 dX11_feed_86 ?_
    refine zA_iaddN dX11_feed_88 ?_
    refine zA_iload_7 dX11_feed_89 ?_
    refine zA_bipush (nI 24) dX11_feed_91 bc_24 ?_
    refine zA_bipush (nI 8) dX11_feed_93 bc_8 ?_
    refine zA_iload_6 dX11_feed_95 ?_
    refine zA_iconst (nI 4) dX11_feed_97 ic_4 ?_
    refine zA_iremN dX11_feed_98 (by omega) (by omega) (by omega) ?_
    refine zA_imulN dX11_feed_99 ?_
    refine zA_isubN dX11_feed_100 (by omega) ?_
    refine zA_ishr dX11_feed_101 ?_
    refine zA_sipush (nI 255) dX11_feed_102 sc_255 ?_
    refine zA_iand dX11_feed_105 ?_
    refine zS_iast (T + 14) sh_88 dX11_feed_106 rfl (by omega) (by decide) ?_
    refine zA_iinc_6 (v := nI (14 + 1)) dX11_feed_107 (zn_inc _) rfl ?_
    refine zA_goto 23 dX11_feed_110 (by decide) ?_
    refine zA_iload_6 dX11_feed_23 ?_
    refine zA_bipush (nI 20) dX11_feed_25 bc_20 ?_
    refine zA_icmp_geN 113 dX11_feed_27 (by decide) (by decide) (by decide) (fun hh => absurd hh (by decide)) (fun _ => ?_)
    refine zA_iload_6 dX11_feed_30 ?_
    refine zA_iconst (nI 4) dX11_feed_32 ic_4 ?_
    refine zA_icmp_geN 40 dX11_feed_33 (by decide) (by decide) (by decide) (fun _ => ?_) (fun hh => absurd hh (by decide))
    refine zA_iload_6 dX11_feed_40 ?_
    refine zA_bipush (nI 8) dX11_feed_42 bc_8 ?_
    refine zA_icmp_geN 51 dX11_feed_44 (by decide) (by decide) (by decide) (fun _ => ?_) (fun hh => absurd hh (by decide))
    refine zA_iload_6 dX11_feed_51 ?_
    refine zA_bipush (nI 12) dX11_feed_53 bc_12 ?_
    refine zA_icmp_geN 62 dX11_feed_55 (by decide) (by decide) (by decide) (fun _ => ?_) (fun hh => absurd hh (by decide))
    refine zA_iload_6 dX11_feed_62 ?_
    refine zA_bipush (nI 16) dX11_feed_64 bc_16 ?_
    refine zA_icmp_geN 74 dX11_feed_66 (by decide) (by decide) (by decide) (fun hh => absurd hh (by decide)) (fun _ => ?_)
    refine zA_iload_4 dX11_feed_69 ?_
    refine zA_goto 76 dX11_feed_71 (by decide) ?_
    refine zA_istore_7 dX11_feed_76 rfl ?_
    refine zA_aload_0 dX11_feed_78 ?_
    refine zA_getR sh_87 fX11_7 dX11_feed_79 rfl (rt_87_0 _) ?_
    refine zA_aload_0 dX11_feed_82 ?_
    refine zA_getI (v := (nI T)) sh_87 fX11_166 dX11_feed_83 rfl hT ?_
    refine zA_iload_6 dX11_feed_86 ?_
    refine zA_iaddN dX11_feed_88 ?_
    refine zA_iload_7 dX11_feed_89 ?_
    refine zA_bipush (nI 24) dX11_feed_91 bc_24 ?_
    refine zA_bipush (nI 8) dX11_feed_93 bc_8 ?_
    refine zA_iload_6 dX11_feed_95 ?_
    refine zA_iconst (nI 4) dX11_feed_97 ic_4 ?_
    refine zA_iremN dX11_feed_98 (by omega) (by omega) (by omega) ?_
    refine zA_imulN dX11_feed_99 ?_
    refine zA_isubN dX11_feed_100 (by omega) ?_
    refine zA_ishr dX11_feed_101 ?_
    refine zA_sipush (nI 255) dX11_feed_102 sc_255 ?_
    refine zA_iand dX11_feed_105 ?_
    refine zS_iast (T + 15) sh_88 dX11_feed_106 rfl (by omega) (by decide) ?_
    refine zA_iinc_6 (v := nI (15 + 1)) dX11_feed_107 (zn_inc _) rfl ?_
    refine zA_goto 23 dX11_feed_110 (by decide) ?_
    refine zA_iload_6 dX11_feed_23 ?_
    refine zA_bipush (nI 20) dX11_feed_25 bc_20 ?_
    refine zA_icmp_geN 113 dX11_feed_27 (by decide) (by decide) (by decide) (fun hh => absurd hh (by decide)) (fun _ => ?_)
    refine zA_iload_6 dX11_feed_30 ?_
    refine zA_iconst (nI 4) dX11_feed_32 ic_4 ?_
    refine zA_icmp_geN 40 dX11_feed_33 (by decide) (by decide) (by decide) (fun _ => ?_) (fun hh => absurd hh (by decide))
    refine zA_iload_6 dX11_feed_40 ?_
    refine zA_bipush (nI 8) dX11_feed_42 bc_8 ?_
    refine zA_icmp_geN 51 dX11_feed_44 (by decide) (by decide) (by decide) (fun _ => ?_) (fun hh => absurd hh (by decide))
    refine zA_iload_6 dX11_feed_51 ?_
    refine zA_bipush (nI 12) dX11_feed_53 bc_12 ?_
    refine zA_icmp_geN 62 dX11_feed_55 (by decide) (by decide) (by decide) (fun _ => ?_) (fun hh => absurd hh (by decide))
    refine zA_iload_6 dX11_feed_62 ?_
    refine zA_bipush (nI 16) dX11_feed_64 bc_16 ?_
    refine zA_icmp_geN 74 dX11_feed_66 (by decide) (by decide) (by decide) (fun _ => ?_) (fun hh => absurd hh (by decide))
    refine zA_iload_5 dX11_feed_74 ?_
    refine zA_istore_7 dX11_feed_76 rfl ?_
    refine zA_aload_0 dX11_feed_78 ?_
    refine zA_getR sh_87 fX11_7 dX11_feed_79 rfl (rt_87_0 _) ?_
    refine zA_aload_0 dX11_feed_82 ?_
    refine zA_getI (v := (nI T)) sh_87 fX11_166 dX11_feed_83 rfl hT ?_
    refine zA_iload_6 dX11_feed_86 ?_
    refine zA_iaddN dX11_feed_88 ?_
    refine zA_iload_7 dX11_feed_89 ?_
    refine zA_bipush (nI 24) dX11_feed_91 bc_24 ?_
    refine zA_bipush (nI 8) dX11_feed_93 bc_8 ?_
    refine zA_iload_6 dX11_feed_95 ?_
    refine zA_iconst (nI 4) dX11_feed_97 ic_4 ?_
    refine zA_iremN dX11_feed_98 (by omega) (by omega) (by omega) ?_
    refine zA_imulN dX11_feed_99 ?_
    refine zA_isubN dX11_feed_100 (by omega) ?_
    refine zA_ishr dX11_feed_101 ?_
    refine zA_sipush (nI 255) dX11_feed_102 sc_255 ?_
    refine zA_iand dX11_feed_105 ?_
    refine zS_iast (T + 16) sh_88 dX11_feed_106 rfl (by omega) (by decide) ?_
    refine zA_iinc_6 (v := nI (16 + 1)) dX11_feed_107 (zn_inc _) rfl ?_
    refine zA_goto 23 dX11_feed_110 (by decide) ?_
    refine zA_iload_6 dX11_feed_23 ?_
    refine zA_bipush (nI 20) dX11_feed_25 bc_20 ?_
    refine zA_icmp_geN 113 dX11_feed_27 (by decide) (by decide) (by decide) (fun hh => absurd hh (by decide)) (fun _ => ?_)
    refine zA_iload_6 dX11_feed_30 ?_
    refine zA_iconst (nI 4) dX11_feed_32 ic_4 ?_
    refine zA_icmp_geN 40 dX11_feed_33 (by decide) (by decide) (by decide) (fun _ => ?_) (fun hh => absurd hh (by decide))
    refine zA_iload_6 dX11_feed_40 ?_
    refine zA_bipush (nI 8) dX11_feed_42 bc_8 ?_
    refine zA_icmp_geN 51 dX11_feed_44 (by decide) (by decide) (by decide) (fun _ => ?_) (fun hh => absurd hh (by decide))
    refine zA_iload_6 dX11_feed_51 ?_
    refine zA_bipush (nI 12) dX11_feed_53 bc_12 ?_
    refine zA_icmp_geN 62 dX11_feed_55 (by decide) (by decide) (by decide) (fun _ => ?_) (fun hh => absurd hh (by decide))
    refine zA_iload_6 dX11_feed_62 ?_
    refine zA_bipush (nI 16) dX11_feed_64 bc_16 ?_
    refine zA_icmp_geN 74 dX11_feed_66 (by decide) (by decide) (by decide) (fun _ => ?_) (fun hh => absurd hh (by decide))
    refine zA_iload_5 dX11_feed_74 ?_
    refine zA_istore_7 dX11_feed_76 rfl ?_
    refine zA_aload_0 dX11_feed_78 ?_
    refine zA_getR sh_87 fX11_7 dX11_feed_79 rfl (rt_87_0 _) ?_
    refine zA_aload_0 dX11_feed_82 ?_
    refine zA_getI (v := (nI T)) sh_87 fX11_166 dX11_feed_83 rfl hT ?_
    refine zA_iload_6 dX11_feed_86 ?_
    refine zA_iaddN dX11_feed_88 ?_
    refine zA_iload_7 dX11_feed_89 ?_
    refine zA_bipush (nI 24) dX11_feed_91 bc_24 ?_
    refine zA_bipush (nI 8) dX11_feed_93 bc_8 ?_
    refine zA_iload_6 dX11_feed_95 ?_
    refine zA_iconst (nI 4) dX11_feed_97 ic_4 ?_
    refine zA_iremN dX11_feed_98 (by omega) (by omega) (by omega) ?_
    refine zA_imulN dX11_feed_99 ?_
    refine zA_isubN dX11_feed_100 (by omega) ?_
    refine zA_ishr dX11_feed_101 ?_
    refine zA_sipush (nI 255) dX11_feed_102 sc_255 ?_
    refine zA_iand dX11_feed_105 ?_
    refine zS_iast (T + 17) sh_88 dX11_feed_106 rfl (by omega) (by decide) ?_
    refine zA_iinc_6 (v := nI (17 + 1)) dX11_feed_107 (zn_inc _) rfl ?_
    refine zA_goto 23 dX11_feed_110 (by decide) ?_
    refine zA_iload_6 dX11_feed_23 ?_
    refine zA_bipush (nI 20) dX11_feed_25 bc_20 ?_
    refine zA_icmp_geN 113 dX11_feed_27 (by decide) (by decide) (by decide) (fun hh => absurd hh (by decide)) (fun _ => ?_)
    refine zA_iload_6 dX11_feed_30 ?_
    refine zA_iconst (nI 4) dX11_feed_32 ic_4 ?_
    refine zA_icmp_geN 40 dX11_feed_33 (by decide) (by decide) (by decide) (fun _ => ?_) (fun hh => absurd hh (by decide))
    refine zA_iload_6 dX11_feed_40 ?_
    refine zA_bipush (nI 8) dX11_feed_42 bc_8 ?_
    refine zA_icmp_geN 51 dX11_feed_44 (by decide) (by decide) (by decide) (fun _ => ?_) (fun hh => absurd hh (by decide))
    refine zA_iload_6 dX11_feed_51 ?_
    refine zA_bipush (nI 12) dX11_feed_53 bc_12 ?_
    refine zA_icmp_geN 62 dX11_feed_55 (by decide) (by decide) (by decide) (fun _ => ?_) (fun hh => absurd hh (by decide))
    refine zA_iload_6 dX11_feed_62 ?_
    refine zA_bipush (nI 16) dX11_feed_64 bc_16 ?_
    refine zA_icmp_geN 74 dX11_feed_66 (by decide) (by decide) (by decide) (fun _ => ?_) (fun hh => absurd hh (by decide))
    refine zA_iload_5 dX11_feed_74 ?_
    refine zA_istore_7 dX11_feed_76 rfl ?_
    refine zA_aload_0 dX11_feed_78 ?_
    refine zA_getR sh_87 fX11_7 dX11_feed_79 rfl (rt_87_0 _) ?_
    refine zA_aload_0 dX11_feed_82 ?_
    refine zA_getI (v := (nI T)) sh_87 fX11_166 dX11_feed_83 rfl hT ?_
    refine zA_iload_6 dX11_feed_86 ?_
    refine zA_iaddN dX11_feed_88 ?_
    refine zA_iload_7 dX11_feed_89 ?_
    refine zA_bipush (nI 24) dX11_feed_91 bc_24 ?_
    refine zA_bipush (nI 8) dX11_feed_93 bc_8 ?_
    refine zA_iload_6 dX11_feed_95 ?_
    refine zA_iconst (nI 4) dX11_feed_97 ic_4 ?_
    refine zA_iremN dX11_feed_98 (by omega) (by omega) (by omega) ?_
    refine zA_imulN dX11_feed_99 ?_
    refine zA_isubN dX11_feed_100 (by omega) ?_
    refine zA_ishr dX11_feed_101 ?_
    refine zA_sipush (nI 255) dX11_feed_102 sc_255 ?_
    refine zA_iand dX11_feed_105 ?_
    refine zS_iast (T + 18) sh_88 dX11_feed_106 rfl (by omega) (by decide) ?_
    refine zA_iinc_6 (v := nI (18 + 1)) dX11_feed_107 (zn_inc _) rfl ?_
    refine zA_goto 23 dX11_feed_110 (by decide) ?_
    refine zA_iload_6 dX11_feed_23 ?_
    refine zA_bipush (nI 20) dX11_feed_25 bc_20 ?_
    refine zA_icmp_geN 113 dX11_feed_27 (by decide) (by decide) (by decide) (fun hh => absurd hh (by decide)) (fun _ => ?_)
    refine zA_iload_6 dX11_feed_30 ?_
    refine zA_iconst (nI 4) dX11_feed_32 ic_4 ?_
    refine zA_icmp_geN 40 dX11_feed_33 (by decide) (by decide) (by decide) (fun _ => ?_) (fun hh => absurd hh (by decide))
    refine zA_iload_6 dX11_feed_40 ?_
    refine zA_bipush (nI 8) dX11_feed_42 bc_8 ?_
    refine zA_icmp_geN 51 dX11_feed_44 (by decide) (by decide) (by decide) (fun _ => ?_) (fun hh => absurd hh (by decide))
    refine zA_iload_6 dX11_feed_51 ?_
    refine zA_bipush (nI 12) dX11_feed_53 bc_12 ?_
    refine zA_icmp_geN 62 dX11_feed_55 (by decide) (by decide) (by decide) (fun _ => ?_) (fun hh => absurd hh (by decide))
    refine zA_iload_6 dX11_feed_62 ?_
    refine zA_bipush (nI 16) dX11_feed_64 bc_16 ?_
    refine zA_icmp_geN 74 dX11_feed_66 (by decide) (by decide) (by decide) (fun _ => ?_) (fun hh => absurd hh (by decide))
    refine zA_iload_5 dX11_feed_74 ?_
    refine zA_istore_7 dX11_feed_76 rfl ?_
    refine zA_aload_0 dX11_feed_78 ?_
    refine zA_getR sh_87 fX11_7 dX11_feed_79 rfl (rt_87_0 _) ?_
    refine zA_aload_0 dX11_feed_82 ?_
    refine zA_getI (v := (nI T)) sh_87 fX11_166 dX11_feed_83 rfl hT ?_
    refine zA_iload_6 dX11_feed_86 ?_
    refine zA_iaddN dX11_feed_88 ?_
    refine zA_iload_7 dX11_feed_89 ?_
    refine zA_bipush (nI 24) dX11_feed_91 bc_24 ?_
    refine zA_bipush (nI 8) dX11_feed_93 bc_8 ?_
    refine zA_iload_6 dX11_feed_95 ?_
    refine zA_iconst (nI 4) dX11_feed_97 ic_4 ?_
    refine zA_iremN dX11_feed_98 (by omega) (by omega) (by omega) ?_
    refine zA_imulN dX11_feed_99 ?_
    refine zA_isubN dX11_feed_100 (by omega) ?_
    refine zA_ishr dX11_feed_101 ?_
    refine zA_sipush (nI 255) dX11_feed_102 sc_255 ?_
    refine zA_iand dX11_feed_105 ?_
    refine zS_iast (T + 19) sh_88 dX11_feed_106 rfl (by omega) (by decide) ?_
    refine zA_iinc_6 (v := nI (19 + 1)) dX11_feed_107 (zn_inc _) rfl ?_
    refine zA_goto 23 dX11_feed_110 (by decide) ?_
    refine zA_iload_6 dX11_feed_23 ?_
    refine zA_bipush (nI 20) dX11_feed_25 bc_20 ?_
    refine zA_icmp_geN 113 dX11_feed_27 (by decide) (by decide) (by decide) (fun _ => ?_) (fun hh => absurd hh (by decide))
    refine zA_aload_0 dX11_feed_113 ?_
    refine zA_dup dX11_feed_114 rfl ?_
    refine zA_getI (v := (nI T)) sh_87 fX11_166 dX11_feed_115 rfl hT ?_
    refine zA_bipush (nI 20) dX11_feed_118 bc_20 ?_
    refine zA_iaddN dX11_feed_120 ?_
    refine zS_putI sh_87 fX11_166 dX11_feed_121 rfl rfl ?_
    refine zA_aload_0 dX11_feed_124 ?_
    refine zA_getI (v := (nI (T + 20))) sh_87 fX11_166 dX11_feed_125 rfl rfl ?_
    exact zB_iret rfl dX11_feed_128 (Or.inl ⟨g0, rfl, rfl, rfl, rfl⟩)
  · refine zA_iconst (-1) dX11_feed_18 ic_m1 ?_
    exact zB_iret rfl dX11_feed_19 (Or.inr ⟨by omega, rfl, rfl, rfl, rfl⟩)
def rClrS (v : Int32) (M : zm_I) (e : Nat) : zm_I := if M 99 (4 * e + 1) = v then M else zs (rSets M (zi (M 87 18)) (M 99 (4 * e)) (M 99 (4 * e + 1)) (M 99 (4 * e + 2)) (M 99 (4 * e + 3))) 87 18 (nI (zi (M 87 18) + 1))
theorem zit_clr {v : Int32} {M : zm_I} (h : M 87 18 = nI 0) : ∀ e, e < 2 ^ 30 → ∃ k, k ≤ e ∧ zit (rClrS v) M e 87 18 = nI k
  | 0, _ => ⟨0, Nat.le_refl _, h⟩
  | e + 1, he => by
    obtain ⟨k, hk, hm⟩ := zit_clr h e (by omega)
    show ∃ k, k ≤ e + 1 ∧ rClrS v (zit (rClrS v) M e) e 87 18 = nI k
    generalize zit (rClrS v) M e = X at hm ⊢
    unfold rClrS
    split
    · exact ⟨k, by omega, hm⟩
    · exact ⟨k + 1, by omega, by rw [zs_eq, hm, zi_nI (by omega)]⟩
theorem ct_rClear (g : zm_G) (gi : zm_I) (gl : zm_J) (r : Nat) {W : Nat} (hW : gi 87 12 = nI W) (hW3 : W ≤ 3) {E : Nat} (hE : gi 87 18 = nI E) (hE24 : E ≤ 24) (a : Int32)  : zC_i g yX11_clear mX11_clear 1 [.ref 87, .int a] zSH gi gl (zRT r) (fun z gi' gl' gr' => (a = -1 ∧ z = nI E - nI 0 ∧ gi' = zs (zs (zs gi 87 2 (nI 0)) 87 18 (nI 0)) 87 20 (nI 0) ∧ gl' = gl ∧ gr' = zRT r) ∨ (¬ a = -1 ∧ zin W a ∧ z = nI E - zit (rClrS a) (zs (zs gi 87 2 (nI 0)) 87 18 (nI 0)) E 87 18 ∧ gi' = zit (rClrS a) (zs (zs gi 87 2 (nI 0)) 87 18 (nI 0)) E ∧ gl' = gl ∧ gr' = zRT r) ∨ (¬ a = -1 ∧ ¬ zin W a ∧ z = -2 ∧ gi' = zs gi 87 2 (nI 0) ∧ gl' = gl ∧ gr' = zRT r)) := by
  refine zC_i_of [some (.ref 87), some (.int a), none, none] (by decide) rfl rfl (Nat.le_of_ble_eq_true rfl) (fun x => ?_)
  refine zA_aload_0 dX11_clear_0 ?_
  refine zA_iconst (nI 0) dX11_clear_1 ic_0 ?_
  refine zS_putI sh_87 fX11_163 dX11_clear_2 rfl rfl ?_
  refine zA_iload_1 dX11_clear_5 ?_
  refine zA_iconst (-1) dX11_clear_6 ic_m1 ?_
  refine zA_icmp_eq 21 dX11_clear_7 (by decide) (fun g0 => ?_) (fun g0 => ?_)
  · refine zA_aload_0 dX11_clear_21 ?_
    refine zA_getI (v := (nI E)) sh_87 fX11_202 dX11_clear_22 rfl hE ?_
    refine zA_istore_2 dX11_clear_25 rfl ?_
    refine zA_aload_0 dX11_clear_26 ?_
    refine zA_iconst (nI 0) dX11_clear_27 ic_0 ?_
    refine zS_putI sh_87 fX11_202 dX11_clear_28 rfl rfl ?_
    refine zA_iconst (nI 0) dX11_clear_31 ic_0 ?_
    refine zA_istore_3 dX11_clear_32 rfl ?_
    have key : ∀ (m e : Nat), e + m = E → zB_i x g mX11_clear 1 zSH (fun z gi' gl' gr' => (a = -1 ∧ z = nI E - nI 0 ∧ gi' = zs (zs (zs gi 87 2 (nI 0)) 87 18 (nI 0)) 87 20 (nI 0) ∧ gl' = gl ∧ gr' = zRT r) ∨ (¬ a = -1 ∧ zin W a ∧ z = nI E - zit (rClrS a) (zs (zs gi 87 2 (nI 0)) 87 18 (nI 0)) E 87 18 ∧ gi' = zit (rClrS a) (zs (zs gi 87 2 (nI 0)) 87 18 (nI 0)) E ∧ gl' = gl ∧ gr' = zRT r) ∨ (¬ a = -1 ∧ ¬ zin W a ∧ z = -2 ∧ gi' = zs gi 87 2 (nI 0) ∧ gl' = gl ∧ gr' = zRT r)) 33 [some (.ref 87), some (.int a), some (.int (nI E)), some (.int (nI e))] [] ((zs (zs gi 87 2 (nI 0)) 87 18 (nI 0))) gl (zRT r) := by
      intro m
      induction m with
      | zero =>
        intro e he
        refine zA_iload_3 dX11_clear_33 ?_
        refine zA_iload_2 dX11_clear_34 ?_
        refine zA_icmp_geN 122 dX11_clear_35 (by decide) (by omega) (by omega) (fun h => ?_) (fun h => ?_)
        · refine zA_iload_1 dX11_clear_122 ?_
          refine zA_iconst (-1) dX11_clear_123 ic_m1 ?_
          refine zA_icmp_ne 132 dX11_clear_124 (by decide) (fun g9 => ?_) (fun g9 => ?_)
          · exact absurd g0 g9
          · refine zA_aload_0 dX11_clear_127 ?_
            refine zA_iconst (nI 0) dX11_clear_128 ic_0 ?_
            refine zS_putI sh_87 fX11_212 dX11_clear_129 rfl rfl ?_
            refine zA_iload_2 dX11_clear_132 ?_
            refine zA_aload_0 dX11_clear_133 ?_
            refine zA_getI (v := ((zs (zs gi 87 2 (nI 0)) 87 18 (nI 0)) 87 18)) sh_87 fX11_202 dX11_clear_134 rfl rfl ?_
            refine zA_isub dX11_clear_137 ?_
            exact zB_iret rfl dX11_clear_138 (Or.inl ⟨g0, rfl, rfl, rfl, rfl⟩)
        · exact absurd h (by omega)
      | succ m ih =>
        intro e he
        refine zA_iload_3 dX11_clear_33 ?_
        refine zA_iload_2 dX11_clear_34 ?_
        refine zA_icmp_geN 122 dX11_clear_35 (by decide) (by omega) (by omega) (fun h => ?_) (fun h => ?_)
        · exact absurd h (by omega)
        · refine zA_iload_1 dX11_clear_38 ?_
          refine zA_iconst (-1) dX11_clear_39 ic_m1 ?_
          refine zA_icmp_eq 116 dX11_clear_40 (by decide) (fun g9 => ?_) (fun g9 => ?_)
          · refine zA_iinc_3 (v := nI (e + 1)) dX11_clear_116 (zn_inc _) rfl ?_
            refine zA_goto 33 dX11_clear_119 (by decide) ?_
            exact ih (e + 1) (by omega)
          · exact absurd g0 g9
    exact key E 0 (by omega)
  · refine zA_aload_0 dX11_clear_10 ?_
    refine zA_iload_1 dX11_clear_11 ?_
    refine zA_cVi (ct_risVan g (zs gi 87 2 (nI 0)) gl r hW (by omega) a) calX11_isVan stX11_isVan lX11_189 dX11_clear_12 (by decide) (by simp [Value.category]) rfl (Nat.le_refl _) (Nat.le_refl _) sh_87 rfl (fun zz gi' gl' gr' ⟨hz, q1, q2, q3⟩ => ?_)
    rw [hz, q1, q2, q3]
    clear hz q1 q2 q3
    refine zA_if_neB 21 dX11_clear_15 (by decide) (fun g1 => ?_) (fun g1 => ?_)
    · refine zA_aload_0 dX11_clear_21 ?_
      refine zA_getI (v := (nI E)) sh_87 fX11_202 dX11_clear_22 rfl hE ?_
      refine zA_istore_2 dX11_clear_25 rfl ?_
      refine zA_aload_0 dX11_clear_26 ?_
      refine zA_iconst (nI 0) dX11_clear_27 ic_0 ?_
      refine zS_putI sh_87 fX11_202 dX11_clear_28 rfl rfl ?_
      refine zA_iconst (nI 0) dX11_clear_31 ic_0 ?_
      refine zA_istore_3 dX11_clear_32 rfl ?_
      have key : ∀ (m e : Nat), e + m = E → zB_i x g mX11_clear 1 zSH (fun z gi' gl' gr' => (a = -1 ∧ z = nI E - nI 0 ∧ gi' = zs (zs (zs gi 87 2 (nI 0)) 87 18 (nI 0)) 87 20 (nI 0) ∧ gl' = gl ∧ gr' = zRT r) ∨ (¬ a = -1 ∧ zin W a ∧ z = nI E - zit (rClrS a) (zs (zs gi 87 2 (nI 0)) 87 18 (nI 0)) E 87 18 ∧ gi' = zit (rClrS a) (zs (zs gi 87 2 (nI 0)) 87 18 (nI 0)) E ∧ gl' = gl ∧ gr' = zRT r) ∨ (¬ a = -1 ∧ ¬ zin W a ∧ z = -2 ∧ gi' = zs gi 87 2 (nI 0) ∧ gl' = gl ∧ gr' = zRT r)) 33 [some (.ref 87), some (.int a), some (.int (nI E)), some (.int (nI e))] [] ((zit (rClrS a) (zs (zs gi 87 2 (nI 0)) 87 18 (nI 0)) e)) gl (zRT r) := by
        intro m
        induction m with
        | zero =>
          intro e he
          refine zA_iload_3 dX11_clear_33 ?_
          refine zA_iload_2 dX11_clear_34 ?_
          refine zA_icmp_geN 122 dX11_clear_35 (by decide) (by omega) (by omega) (fun h => ?_) (fun h => ?_)
          · have e9 : e = E := by omega
            subst e9
            refine zA_iload_1 dX11_clear_122 ?_
            refine zA_iconst (-1) dX11_clear_123 ic_m1 ?_
            refine zA_icmp_ne 132 dX11_clear_124 (by decide) (fun g9 => ?_) (fun g9 => ?_)
            · refine zA_iload_2 dX11_clear_132 ?_
              refine zA_aload_0 dX11_clear_133 ?_
              refine zA_getI (v := ((zit (rClrS a) (zs (zs gi 87 2 (nI 0)) 87 18 (nI 0)) e) 87 18)) sh_87 fX11_202 dX11_clear_134 rfl rfl ?_
              refine zA_isub dX11_clear_137 ?_
              exact zB_iret rfl dX11_clear_138 (Or.inr (Or.inl ⟨g0, g1, rfl, rfl, rfl, rfl⟩))
            · exact absurd g9 g0
          · exact absurd h (by omega)
        | succ m ih =>
          intro e he
          obtain ⟨k, hk, hm⟩ := zit_clr (v := a) (M := (zs (zs gi 87 2 (nI 0)) 87 18 (nI 0))) rfl e (by omega)
          have hn : zit (rClrS a) (zs (zs gi 87 2 (nI 0)) 87 18 (nI 0)) (e + 1) = rClrS a (zit (rClrS a) (zs (zs gi 87 2 (nI 0)) 87 18 (nI 0)) e) e := rfl
          have ih2 := ih (e + 1) (by omega)
          rw [hn] at ih2
          generalize (zit (rClrS a) (zs (zs gi 87 2 (nI 0)) 87 18 (nI 0)) e) = X at hm ih2 ⊢
          have hzk : zi (X 87 18) = k := by rw [hm]; exact zi_nI (by omega)
          refine zA_iload_3 dX11_clear_33 ?_
          refine zA_iload_2 dX11_clear_34 ?_
          refine zA_icmp_geN 122 dX11_clear_35 (by decide) (by omega) (by omega) (fun h => ?_) (fun h => ?_)
          · exact absurd h (by omega)
          · refine zA_iload_1 dX11_clear_38 ?_
            refine zA_iconst (-1) dX11_clear_39 ic_m1 ?_
            refine zA_icmp_eq 116 dX11_clear_40 (by decide) (fun g9 => ?_) (fun g9 => ?_)
            · exact absurd g9 g0
            · refine zA_aload_0 dX11_clear_43 ?_
              refine zA_getR sh_87 fX11_43 dX11_clear_44 rfl (rt_87_19 _) ?_
              refine zA_iconst (nI 4) dX11_clear_47 ic_4 ?_
              refine zA_iload_3 dX11_clear_48 ?_
              refine zA_imulN dX11_clear_49 ?_
              refine zA_iconst (nI 1) dX11_clear_50 ic_1 ?_
              refine zA_iaddN dX11_clear_51 ?_
              refine zA_iald (v := (X 99 ((4 * e) + 1))) ((4 * e) + 1) sh_99 dX11_clear_52 rfl (by omega) (by decide) rfl ?_
              refine zA_iload_1 dX11_clear_53 ?_
              refine zA_icmp_ne 60 dX11_clear_54 (by decide) (fun g10 => ?_) (fun g10 => ?_)
              · refine zA_aload_0 dX11_clear_60 ?_
                refine zA_aload_0 dX11_clear_61 ?_
                refine zA_getI (v := (nI k)) sh_87 fX11_202 dX11_clear_62 rfl hm ?_
                refine zA_aload_0 dX11_clear_65 ?_
                refine zA_getR sh_87 fX11_43 dX11_clear_66 rfl (rt_87_19 _) ?_
                refine zA_iconst (nI 4) dX11_clear_69 ic_4 ?_
                refine zA_iload_3 dX11_clear_70 ?_
                refine zA_imulN dX11_clear_71 ?_
                refine zA_iald (v := (X 99 (4 * e))) (4 * e) sh_99 dX11_clear_72 rfl (by omega) (by decide) rfl ?_
                refine zA_aload_0 dX11_clear_73 ?_
                refine zA_getR sh_87 fX11_43 dX11_clear_74 rfl (rt_87_19 _) ?_
                refine zA_iconst (nI 4) dX11_clear_77 ic_4 ?_
                refine zA_iload_3 dX11_clear_78 ?_
                refine zA_imulN dX11_clear_79 ?_
                refine zA_iconst (nI 1) dX11_clear_80 ic_1 ?_
                refine zA_iaddN dX11_clear_81 ?_
                refine zA_iald (v := (X 99 ((4 * e) + 1))) ((4 * e) + 1) sh_99 dX11_clear_82 rfl (by omega) (by decide) rfl ?_
                refine zA_aload_0 dX11_clear_83 ?_
                refine zA_getR sh_87 fX11_43 dX11_clear_84 rfl (rt_87_19 _) ?_
                refine zA_iconst (nI 4) dX11_clear_87 ic_4 ?_
                refine zA_iload_3 dX11_clear_88 ?_
                refine zA_imulN dX11_clear_89 ?_
                refine zA_iconst (nI 2) dX11_clear_90 ic_2 ?_
                refine zA_iaddN dX11_clear_91 ?_
                refine zA_iald (v := (X 99 ((4 * e) + 2))) ((4 * e) + 2) sh_99 dX11_clear_92 rfl (by omega) (by decide) rfl ?_
                refine zA_aload_0 dX11_clear_93 ?_
                refine zA_getR sh_87 fX11_43 dX11_clear_94 rfl (rt_87_19 _) ?_
                refine zA_iconst (nI 4) dX11_clear_97 ic_4 ?_
                refine zA_iload_3 dX11_clear_98 ?_
                refine zA_imulN dX11_clear_99 ?_
                refine zA_iconst (nI 3) dX11_clear_100 ic_3 ?_
                refine zA_iaddN dX11_clear_101 ?_
                refine zA_iald (v := (X 99 ((4 * e) + 3))) ((4 * e) + 3) sh_99 dX11_clear_102 rfl (by omega) (by decide) rfl ?_
                refine zA_cVv (ct_rSets g X gl r (e := k) (by omega) (X 99 (4 * e)) (X 99 (4 * e + 1)) (X 99 (4 * e + 2)) (X 99 (4 * e + 3))) calX11_sets stX11_sets lX11_208 dX11_clear_103 (by decide) (by simp [Value.category]) rfl (Nat.le_refl _) (Nat.le_refl _) sh_87 rfl (fun gi' gl' gr' ⟨e1, e2, e3⟩ => ?_)
                rw [e1, e2, e3]
                clear e1 e2 e3
                refine zA_aload_0 dX11_clear_106 ?_
                refine zA_dup dX11_clear_107 rfl ?_
                refine zA_getI (v := (nI k)) sh_87 fX11_202 dX11_clear_108 rfl hm ?_
                refine zA_iconst (nI 1) dX11_clear_111 ic_1 ?_
                refine zA_iaddN dX11_clear_112 ?_
                refine zS_putI sh_87 fX11_202 dX11_clear_113 rfl rfl ?_
                refine zA_iinc_3 (v := nI (e + 1)) dX11_clear_116 (zn_inc _) rfl ?_
                refine zA_goto 33 dX11_clear_119 (by decide) ?_
                unfold rClrS at ih2
                rw [if_neg g10, hzk] at ih2
                exact ih2
              · refine zA_goto 116 dX11_clear_57 (by decide) ?_
                refine zA_iinc_3 (v := nI (e + 1)) dX11_clear_116 (zn_inc _) rfl ?_
                refine zA_goto 33 dX11_clear_119 (by decide) ?_
                unfold rClrS at ih2
                rw [if_pos g10] at ih2
                exact ih2
      exact key E 0 (by omega)
    · refine zA_bipush (-2) dX11_clear_18 bc_m2 ?_
      exact zB_iret rfl dX11_clear_20 (Or.inr (Or.inr ⟨g0, g1, rfl, rfl, rfl, rfl⟩))
