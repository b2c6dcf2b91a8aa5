/-! ===== look, which throws ===== -/
def zLB : List Cond := [.declares ⟨"java/lang/RuntimeException", "<init>", "(Ljava/lang/String;)V"⟩, .declares ⟨"java/lang/Exception", "<init>", "(Ljava/lang/String;)V"⟩, .declares ⟨"java/lang/Throwable", "<init>", "(Ljava/lang/String;)V"⟩, .castable "java/lang/IndexOutOfBoundsException" "java/lang/IndexOutOfBoundsException", .castable "java/util/NoSuchElementException" "java/util/NoSuchElementException"]
def zLX (U : State) : Prop := (∀ w ∈ zLB, va_Nw w U) ∧ va_Nc "java/util/NoSuchElementException" "java/lang/IndexOutOfBoundsException" U
theorem zLB_on : ∀ w ∈ zLB, w.onTables = true := by decide
theorem zLX_warm {s U : State} (hW : s.WarmedH U.vm) (h : zLX s) : zLX U := by
  refine ⟨fun w hw => ?_, h.2.moved hW.alike⟩
  have h2 := h.1 w hw
  simp only [zLB, List.mem_cons, List.not_mem_nil, or_false] at hw
  rcases hw with rfl | rfl | rfl | rfl | rfl
  · exact va_Nw.warmD hW h2
  · exact va_Nw.warmD hW h2
  · exact va_Nw.warmD hW h2
  · exact va_Nw.warmC hW h2
  · exact va_Nw.warmC hW h2
theorem lk_a1 : ∀ w ∈ (zAt RX10 278 "java/lang/IndexOutOfBoundsException" 7 Bundle.six ["java/lang/RuntimeException", "java/lang/Exception"]).filter goodWord, w ∈ lw_tbl := by decide +kernel
theorem lk_a2 : ∀ w ∈ (zAt RX10 285 "java/util/NoSuchElementException" 13 prog_24_method_4_code ["java/lang/RuntimeException", "java/lang/Exception"]).filter goodWord, w ∈ lw_tbl := by decide +kernel
theorem lk_b1 : ∀ w ∈ (zAt RX10 278 "java/lang/IndexOutOfBoundsException" 7 Bundle.six ["java/lang/RuntimeException", "java/lang/Exception"]).filter (fun w => !goodWord w), w ∈ zLB := by decide +kernel
theorem lk_b2 : ∀ w ∈ (zAt RX10 285 "java/util/NoSuchElementException" 13 prog_24_method_4_code ["java/lang/RuntimeException", "java/lang/Exception"]).filter (fun w => !goodWord w), w ∈ zLB := by decide +kernel
theorem lk_g1 : ∀ w ∈ Cond.classLink RX10 274 "java/lang/IndexOutOfBoundsException" :: Cond.initialized "java/lang/IndexOutOfBoundsException" :: zAt RX10 278 "java/lang/IndexOutOfBoundsException" 7 Bundle.six ["java/lang/RuntimeException", "java/lang/Exception"], vx_ot w = true := by decide +kernel
theorem lk_g2 : ∀ w ∈ Cond.classLink RX10 281 "java/util/NoSuchElementException" :: Cond.initialized "java/util/NoSuchElementException" :: zAt RX10 285 "java/util/NoSuchElementException" 13 prog_24_method_4_code ["java/lang/RuntimeException", "java/lang/Exception"], vx_ot w = true := by decide +kernel
theorem lk_h {A : List Cond} {args : Array Value} {s : State} (ha : ∀ w ∈ A.filter goodWord, w ∈ lw_tbl) (hb : ∀ w ∈ A.filter (fun w => !goodWord w), w ∈ zLB) (hT : ∀ w ∈ zm_T, w.before args s = true) (hX : zLX s) : ∀ w ∈ A, w.before args s = true :=
  vx_hat (fun w hw => hT w (List.mem_filter.mpr ⟨ha w hw, (List.mem_filter.mp hw).2⟩)) hb (fun w hw => va_Nw.use (zLB_on w hw) (hX.1 w hw))
theorem zA_toX {x : zm_X} {g : zm_G} {y : zm_Y} {d mc ms ce sl pc : Nat} {L : List (Option Value)} {st : List Value} {M : zm_M} {post : Option Value → zm_M → Prop} {XC : String → State → State → Prop} (k : zA x g y d mc ms (zm_Qx g x mc ms post) ce sl pc L st M) : zA x g y d mc ms (vx_MQ x.below (zm_Qc g x.ad x.n post) XC x.args x.s mc ms (zm_A g)) ce sl pc L st M :=
  fun F hn ad H locs ls h1 h2 h3 h4 h5 => vx_ret (k F hn ad H locs ls h1 h2 h3 h4 h5)
theorem zm_W_more {g : zm_G} {ad : Nat → Nat} {M : zm_M} {H H1 : Heap} (h3 : zm_W g ad M H) (hs : H.size ≤ H1.size) (hq : ∀ q : Nat, q < H.size → H1[q]? = H[q]?) : zm_W g ad M H1 :=
  ⟨Nat.le_trans h3.1 hs, fun q h => (hq q (Nat.lt_of_lt_of_le h h3.1)).trans (h3.2.1 q h), h3.2.2.1.kept (fun k z hk => hq z.1 ((h3.2.2.1 k z hk).lt)), h3.2.2.2.1, h3.2.2.2.2⟩
/-- a throw of one's own, with a text -/
theorem zA_thr {x : zm_X} {g : zm_G} {y : zm_Y} {d mc ms ce sl pc i ik ic ix is_ : Nat} {cls : String} {rx : ByteArray} {L : List (Option Value)} {M : zm_M} {Qc : Array Value → State → Outcome → State → Prop} {XC : String → State → State → Prop} (hl : x.l.stackTraces = false) (hX : zm_GX g x.s) (hnt : ∀ z ∈ x.c.exceptionTable.toList, False) (hxn : x.n = M.1.length) (x0 : decode rx 0 = .ok (.aload_n 0, 1)) (x1 : decode rx 1 = .ok (.aload_n 1, 1)) (x2 : decode rx 2 = .ok (.invokespecial ix, 3)) (x5 : decode rx 5 = .ok (.return_, 1)) (hcls : Bundle.fit cls = true) (hnm : ∀ n ∈ ["java/lang/RuntimeException", "java/lang/Exception"], Bundle.fit n = true) (hi : i < 5) (ho : y.2.1 = zm_own i) (his : is_ = zm_idx i)
    (hk : Cond.classLink y.2.1 ik cls ∈ zm_T) (hini : Cond.initialized cls ∈ zm_T) (hat : ∀ w ∈ zAt y.2.1 ic cls ix rx ["java/lang/RuntimeException", "java/lang/Exception"], w.before x.args x.s = true) (hgood : ∀ w ∈ Cond.classLink y.2.1 ik cls :: Cond.initialized cls :: zAt y.2.1 ic cls ix rx ["java/lang/RuntimeException", "java/lang/Exception"], vx_ot w = true)
    (d0 : decode y.1 pc = .ok (.new ik, 3)) (d3 : decode y.1 (pc + 3) = .ok (.dup, 1)) (d4 : decode y.1 (pc + 4) = .ok (.ldc_w is_, 3)) (d7 : decode y.1 (pc + 7) = .ok (.invokespecial ic, 3)) (d10 : decode y.1 (pc + 10) = .ok (.athrow, 1)) (hd : 7 ≤ d) (hce : ce + 1 ≤ mc) (hsl : sl + 6 ≤ ms)
    (hXC : ∀ t : State, zm_W g x.ad M t.heap → va_F (zm_A g) x.s t → XC cls x.s t) : zA x g y d mc ms (vx_MQ x.below Qc XC x.args x.s mc ms (zm_A g)) ce sl pc L [] M := by
  intro F hn ad H locs ls h1 h2 h3 h4 h5
  obtain ⟨f1, f2, f3, f4, f5, f6, f7, f8, f9, f10, f11, f12, f13, f14⟩ := id F
  have had : ad = x.ad := funext fun q => h1 q (by rw [hxn]; exact Nat.lt_or_ge q _)
  subst his
  have hstr := f10.2.2.2.2.2.2.2 i hi
  rw [← ho] at hstr
  refine zThrX (rest := []) f1 f2 hl x0 x1 x2 x5 f4 hcls hnm (f5 _ hk) (f5 _ hini) hstr hat hgood (hX.2.1.kept (fun a ha hA => f12 a ha)) (hX.2.2.kept (fun a ha hA => f12 a ha)) h4 ((h5.1.trans hn).trans f3.symm) d0 d3 d4 d7 d10 (fun z hz => absurd hz (fun q => hnt z q)) (by show 2 + 3 < x.R.frames; omega) (by show 0 + (13 * (2 + 1) + 43) ≤ x.R.locals; omega) (by rw [f8]; exact hce) (by rw [f9]; exact hsl) f13 (fun t _ hs hq => hXC t (by rw [← had]; exact zm_W_more h3 hs hq) ⟨Nat.le_trans h4.1 hs, fun q hq1 hq2 => (hq q (Nat.lt_of_lt_of_le hq1 h4.1)).trans (h4.2.1 q hq1 hq2)⟩) h4.2.2 hce hsl
def zPX (V : Nat) (a b : Int32) (E : String) : Prop := ((E = "java/lang/IndexOutOfBoundsException" ∧ ¬ zin V a) ∨ (E = "java/util/NoSuchElementException" ∧ zin V a ∧ ¬ (nI 0 ≤ b ∧ b ≤ nI 7)))
def zPL (V : Nat) (a b : Int32) (gi : zm_I) (gl : zm_J) (r : Nat) : Int32 → zm_I → zm_J → zm_R → Prop := fun z gi' gl' gr' => (zin V a ∧ (nI 0 ≤ b ∧ b ≤ nI 7)) ∧ z = gi (5 + zi a) (zi b) ∧ gi' = gi ∧ gl' = gl ∧ gr' = zRT r
def zXC (g : zm_G) (ad : Nat → Nat) (M : zm_M) (V : Nat) (a b : Int32) : String → State → State → Prop := fun E st t => zPX V a b E ∧ zm_W g ad M t.heap ∧ va_F (zm_A g) st t
def zm_Px (g : zm_G) (ad : Nat → Nat) (as : List Value) (M : zm_M) : Array Value → State → Prop := va_Pc (as.map (zm_c ad)) (fun U => zm_Gl g U ∧ zm_W g ad M U.heap ∧ zm_GX g U ∧ zLX U)
theorem zm_blindL {g : zm_G} {as : List Value} {ad : Nat → Nat} {M : zm_M} : FrameBlind (zm_Px g ad as M) := by
  intro a U fr mk h
  obtain ⟨h1, h2, h3, h4, h5⟩ := h
  obtain ⟨b1, b2, b3, b4⟩ := zm_blindX (g := g) (as := as) (ad := ad) (M := M) a U fr mk ⟨h1, h2, h3, h4⟩
  exact ⟨b1, b2, b3, b4, fun w hw => va_Nw.same (zLB_on w hw) (show U.vm = (U.calling fr mk a).vm from rfl) (h5.1 w hw), h5.2.moved (u := U) (U := U.calling fr mk a) (Vm.Alike.refl U.vm)⟩
def zC_lk (g : zm_G) (gi : zm_I) (gl : zm_J) (r V : Nat) (a b : Int32) : Prop := ∀ (l : Launch) (_ : l.stackTraces = false) (ad : Nat → Nat), vx_Met l yX10_look (zm_ws0 yX10_look mX10_look) (zm_rm 7 1 6) (zm_Px g ad [.ref 0, .int a, .int b] (zSH, gi, gl, zRT r)) (zm_Qc g ad 136 (zm_pi zSH (zPL V a b gi gl r))) (zXC g ad (zSH, gi, gl, zRT r) V a b) 1 6 (zm_A g)
theorem ct_look (g : zm_G) (gi : zm_I) (gl : zm_J) (r : Nat) {V : Nat} (hV : gi 3 3 = nI V) (hV8 : V ≤ 8) (a b : Int32) : zC_lk g gi gl r V a b := by
  intro l hl ad
  refine vx_ofW (cc := mX10_look.1) (maxL := 3) (ret := some .int) (by decide) rfl ?_
  intro p e s m args below meth c s₁ B hml hnt hv
  obtain ⟨rfl, hG, hw, hX, hLX⟩ := hv
  have hts := atoms_spec (ws := zm_ws0 yX10_look mX10_look) B.pre
  have hown : s.vm.findClass yX10_look.cls = some m.cls := findClass_of_methodNamed B.named
  rw [lg_entry_eq]
  obtain ⟨x, hx⟩ : ∃ x : zm_X, x = (p, l, e, (headSpec (zm_ws0 yX10_look mX10_look) (zm_rm 7 1 6)).room, s, m, ([Value.ref 0, .int a, .int b].map (zm_c ad)).toArray, below, meth, c, ad, 136) := ⟨_, rfl⟩
  have F : zm_fix x g mX10_look 7 1 6 := by
    rw [hx]
    exact ⟨B.exec, B.bytes, hml, hown, fun w hw => hts w (List.mem_cons_of_mem _ hw), Nat.le_refl _, Nat.le_refl _, rfl, rfl, hG, hw.1, hw.2.1, B.notSynchronized, B.returns⟩
  have key : zA x g mX10_look 7 1 6 (vx_MQ x.below (zm_Qc g x.ad x.n (zm_pi zSH (zPL V a b gi gl r))) (zXC g x.ad (zSH, gi, gl, zRT r) V a b) x.args x.s 1 6 (zm_A g)) 0 0 0 [some (.ref 0), some (.int a), some (.int b)] [] (zSH, gi, gl, zRT r) := by
    have hl : x.l.stackTraces = false := by rw [hx]; exact hl
    have hX : zm_GX g x.s := by rw [hx]; exact hX
    have hLX : zLX x.s := by rw [hx]; exact hLX
    have hnt : ∀ z ∈ x.c.exceptionTable.toList, False := by rw [hx]; exact hnt
    have hxn : x.n = 136 := by rw [hx]
    refine zA_aload_0 dX10_look_0 ?_
    refine zA_getR sh_0 fX10_20 dX10_look_1 rfl (rt_0_2 _) ?_
    refine zA_iload_1 dX10_look_4 ?_
    refine zA_cVi (ct_hasVillageZ g gi gl r hV (by omega) a) calX3_hasVillage stX3_hasVillage lX10_124 dX10_look_5 (by decide) (by simp [Value.category]) rfl (Nat.zero_le _) (Nat.zero_le _) sh_3 rfl (fun zz gi' gl' gr' ⟨hz, q1, q2, q3⟩ => ?_)
    rw [hz, q1, q2, q3]
    clear hz q1 q2 q3
    refine zA_if_neB 22 dX10_look_8 (by decide) (fun hv => ?_) (fun hv => ?_)
    · refine zA_iload_2 dX10_look_22 ?_
      refine zA_iconst (nI 0) dX10_look_23 ic_0 ?_
      refine zA_bipush (nI 7) dX10_look_24 bc_7 ?_
      refine zA_cSi (ct_isWithin g _ _ _ b (nI 0) (nI 7)) calX10_isWithin stX10_isWithin lX10_113 dX10_look_26 (by decide) (by simp [Value.category]) rfl (Nat.zero_le _) (Nat.zero_le _) (fun zz gi' gl' gr' ⟨hz, q1, q2, q3⟩ => ?_)
      rw [hz, q1, q2, q3]
      clear hz q1 q2 q3
      refine zA_if_neB 43 dX10_look_29 (by decide) (fun hb => ?_) (fun hb => ?_)
      · obtain ⟨a0, ha0, rfl⟩ := zin_nat hv (by omega)
        obtain ⟨b0, hb0, rfl⟩ := zwi_nat hb (by decide)
        refine zA_aload_0 dX10_look_43 ?_
        refine zA_getR sh_0 fX10_20 dX10_look_44 rfl (rt_0_2 _) ?_
        refine zA_getR sh_3 fX10_127 dX10_look_47 rfl (rt_3_0 _) ?_
        refine zA_iload_1 dX10_look_50 ?_
        refine zA_aald a0 sh_4 dX10_look_51 rfl (by omega) (by decide) (rtr_fa _ (by omega)) ?_
        refine zA_iload_2 dX10_look_52 ?_
        refine zA_iald (v := (gi (5 + a0) b0)) b0 (shr_fa (by omega)) dX10_look_53 rfl (by omega) (by decide) rfl ?_
        exact zA_toX (zA_widen (Nat.zero_le _) (Nat.zero_le _) (zA_iret rfl dX10_look_54 ⟨_, gi, gl, zRT r, rfl, rfl, ⟨hv, hb⟩, by rw [zi_nI (by omega), zi_nI (by omega)], rfl, rfl, rfl⟩))
      · exact zA_thr (i := 4) hl hX hnt hxn (by decide +kernel) (by decide +kernel) (by decide +kernel) (by decide +kernel) (by decide +kernel) (by decide +kernel) (by decide) rfl rfl (zm_inT 1164 (by decide +kernel) (by decide +kernel)) (zm_inT 140 (by decide +kernel) (by decide +kernel)) (lk_h lk_a2 lk_b2 F.2.2.2.2.1 hLX) lk_g2 dX10_look_32 dX10_look_35 dX10_look_36 dX10_look_39 dX10_look_42 (by decide) (by decide) (by decide) (fun t h1 h2 => ⟨Or.inr ⟨rfl, hv, hb⟩, h1, h2⟩)
    · exact zA_thr (i := 3) hl hX hnt hxn (by decide +kernel) (by decide +kernel) (by decide +kernel) (by decide +kernel) (by decide +kernel) (by decide +kernel) (by decide) rfl rfl (zm_inT 1098 (by decide +kernel) (by decide +kernel)) (zm_inT 139 (by decide +kernel) (by decide +kernel)) (lk_h lk_a1 lk_b1 F.2.2.2.2.1 hLX) lk_g1 dX10_look_11 dX10_look_14 dX10_look_15 dX10_look_18 dX10_look_21 (by decide) (by decide) (by decide) (fun t h1 h2 => ⟨Or.inl ⟨rfl, hv⟩, h1, h2⟩)
  rw [hx] at key F
  exact key F rfl ad s.heap [] _ (fun _ _ => rfl) (Nat.le_refl _) hw va_S.rf (zm_L0_ok ad [.ref 0, .int a, .int b] (Nat.le_of_ble_eq_true rfl))
