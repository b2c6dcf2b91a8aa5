/-! ===== the law's look, which catches ===== -/
def mL_look : zm_Y := (cL_look, RL, 5, some .int)
def zhh : List (Nat × Nat × Nat × Nat) := [(0, 10, 13, 13), (0, 10, 17, 15)]
theorem zm_L_drop {ad : Nat → Nat} {L : List (Option Value)} {ls : Array Slot} {i n q : Nat} (h : lv_has ls n ((i, Value.ref q) :: (zm_as ad L).filter (fun z => !(z.1 == i) && !(z.1 + 1 == i && z.2.category == 2)))) (hp : ∀ (j : Nat) (u : Value), j + 1 = i → L[j]? = some (some u) → u.category = 1) (hi : ∀ u, L[i]? ≠ some (some u)) (hn : n = L.length) : zm_L ad L ls := by
  subst hn
  refine ⟨h.1, h.2.1, fun j u hj => ?_⟩
  refine h.2.2 (j, zm_c ad u) (List.mem_cons_of_mem _ (List.mem_filter.mpr ⟨zm_as_mem.mpr ⟨u, hj, rfl⟩, ?_⟩))
  have e' : ¬ j = i := fun z => hi u (by rw [← z]; exact hj)
  simp only [Bool.and_eq_true, Bool.not_eq_true', beq_eq_false_iff_ne, ne_eq, Bool.and_eq_false_iff]
  refine ⟨e', ?_⟩
  by_cases e2 : j + 1 = i
  · right
    rw [zm_c_cat, hp j u e2 hj]
    decide
  · exact Or.inl e2
theorem zA_lk {x : zm_X} {g : zm_G} {y : zm_Y} {d mc ms ce sl pc idx V r : Nat} {Q : State → Prop} {L : List (Option Value)} {rest st : List Value} {gi : zm_I} {gl : zm_J} {a b : Int32} (hl : x.l.stackTraces = false) (hX : zm_GX g x.s) (hLX : zLX x.s) (hc : zC_lk g gi gl r V a b) (hlk : Cond.methodLink y.2.1 idx yX10_look ∈ zm_T) (hd : decode y.1 pc = .ok (.invokevirtual idx, 3)) (hdep : 8 ≤ d) (hce : ce + 1 ≤ mc) (hsl : sl + 6 ≤ ms) (hcat : (rest.map fun v => v.category).sum ≤ 8) (hs : st = [Value.int a, .int b].reverse ++ .ref 0 :: rest)
    (k : ∀ z gi' gl' gr', zPL V a b gi gl r z gi' gl' gr' → zA x g y d mc ms Q (ce + 1) (sl + 6) (pc + 3) L (.int z :: rest) (zSH, gi', gl', gr'))
    (kx : ∀ (E : String) (cell : Cell) (q : Addr) (ad : Nat → Nat) (H1 : Heap) (locs1 : List Loc) (ls : Array Slot), zPX V a b E → zm_fix x g y d mc ms → L.length = y.2.2.1 → (∀ k, (k < x.n ∨ zSH.length ≤ k) → ad k = x.ad k) → x.n ≤ zSH.length → zm_W g ad (zSH, gi, gl, zRT r) H1 → va_S (zm_A g) x.s.heap H1 locs1 → zm_L ad L ls → H1[q]? = some cell → cell.vm = .none → x.s.vm.findClass E = some cell.cls → vx_W x.p x.l x.e x.R x.s x.m x.args x.below x.meth x.c H1 locs1 (ce + 1) (sl + 6) Q (F0 x.m pc ls (rest.map (zm_c ad))) q) : zA x g y d mc ms Q ce sl pc L st (zSH, gi, gl, zRT r) := by
  intro F hn ad H locs ls h1 h2 h3 h4 h5
  subst hs
  obtain ⟨f1, f2, f3, f4, f5, f6, f7, f8, f9, f10, f11, f12, f13, f14⟩ := id F
  have hR : 7 + 1 ≤ x.R.frames ∧ 8 + (3 + 11) + 41 * 7 ≤ x.R.locals := ⟨by omega, by omega⟩
  have hrecv := va_recv (s := x.s) f10.1 h3.2.2.1 (show vwCl[9]? = some (RX10, TX10, 11) from rfl) (q0 := 0) (zm_ws_at (g := g) (ad := ad) (M := (zSH, gi, gl, zRT r)) sh_0)
  have hp : PreV x.s H yX10_look.cls (ad 0) (zm_Px g ad [.ref 0, .int a, .int b] (zSH, gi, gl, zRT r)) [.int a, .int b] := ⟨zm_blindL, hrecv, fun U hU hW => ⟨rfl, zm_Gl_warm hW f10, by rw [hU]; exact h3, zm_GX_mv hW.alike hX, zLX_warm hW hLX⟩⟩
  have hcap : ce + 1 ≤ x.R.cells ∧ sl + 6 ≤ x.R.slots := ⟨by rw [f8]; exact hce, by rw [f9]; exact hsl⟩
  have hroom : 2 * (F0 x.m pc ls (([Value.int a, .int b].reverse ++ .ref 0 :: rest).map (zm_c ad))).monitorRoom + ((rest.map (zm_c ad)).map fun v => v.category).sum ≤ 8 := lv_room (by rw [zm_c_cats]; exact hcat)
  have hrun := vx_runV (n := 2) (nL := y.2.2.1) (Ts := zm_T) (C := yX10_look.cls) (b := ad 0) (As := [.int a, .int b]) (rest := rest.map (zm_c ad)) (own := y.2.1) (H := H) (locs := locs) (p := x.p) (e := x.e) (below := x.below) (meth := x.meth) ⟨f1, f2, f3, f4, f5⟩ (hc x.l hl ad) ⟨callB_of 2 f5 (zm_good yX10_look mX10_look calX10_look.1) rfl rfl rfl (f5 _ calX10_look.2.1) (f5 _ hlk) calX10_look.2.2.1 hR, f5 _ stX10_look.1, f5 _ stX10_look.2⟩ hp (g := F0 x.m pc ls (([Value.int a, .int b].reverse ++ .ref 0 :: rest).map (zm_c ad))) rfl rfl (h5.1.trans hn) (zm_map_st ad [.int a, .int b] (.ref 0 :: rest)) hroom hd hcap
  have hSof : ∀ {st0 t : State} {T' : State} {Lc : List Loc}, st0.heap = H → T'.heap = t.heap → va_F (zm_A g) st0 t → (∀ z ∈ Lc, zm_A g z.base) → va_S (zm_A g) x.s.heap T'.heap (locs ++ Lc) := fun h0 e1 hF hL => by
    rw [va_F, h0] at hF
    exact ⟨Nat.le_trans h4.1 (by rw [e1]; exact hF.1), fun q k1 k2 => by rw [e1, hF.2 q (Nat.lt_of_lt_of_le k1 h4.1) k2]; exact h4.2.1 q k1 k2, fun q hq => (List.mem_append.mp hq).elim (h4.2.2 q) (hL q)⟩
  intro T hT X
  rcases hrun T hT X with ⟨v, st0, t, T', Lc, h0, X', hL, e1, e2, ⟨v', M', ad', hv, hp', had, hn', hw, hz⟩, stp⟩ | ⟨q, st0, t, T', Lc, E, cell, h0, X', hL, e1, e2, ⟨hpx, hw, hF⟩, hcell, hcv, hcl, stp⟩
  · cases hv
    obtain ⟨z, gi', gl', gr', rfl, rfl, hP⟩ := hp'
    obtain ⟨t2, a1, b1⟩ := zm_next (M := (zSH, gi, gl, zRT r)) (M' := (zSH, gi', gl', gr')) (v := some (.int z)) F hn h1 h2 h5 (Or.inr rfl) had hn' (by rw [e1]; exact hw) (hSof h0 e1 hz hL) (k z gi' gl' gr' hP) T' rfl X'
    exact ⟨t2, stp t2 a1, b1⟩
  · obtain ⟨t2, a1, b1⟩ := kx E cell q ad T'.heap (locs ++ Lc) ls hpx F hn h1 h2 (by rw [e1]; exact hw) (hSof h0 e1 hF hL) h5 (by rw [e1]; exact hcell) hcv hcl T' rfl X'
    exact ⟨t2, stp.trans a1, b1⟩
def zPLL (V : Nat) (a b : Int32) (gi : zm_I) (gl : zm_J) (r : Nat) : Int32 → zm_I → zm_J → zm_R → Prop := fun z gi' gl' gr' => gi' = gi ∧ gr' = zRT r ∧ ((zin V a ∧ (nI 0 ≤ b ∧ b ≤ nI 7) ∧ z = nI 0 ∧ gl' = va_up gl 135 (vp_updL (gl 135) 0 (gi (5 + zi a) (zi b)).toInt64)) ∨ (¬ zin V a ∧ z = nI 1 ∧ gl' = gl) ∨ (zin V a ∧ ¬ (nI 0 ≤ b ∧ b ≤ nI 7) ∧ z = nI 2 ∧ gl' = gl))
theorem ct_LL (g : zm_G) (gi : zm_I) (gl : zm_J) (r : Nat) {V : Nat} (hV : gi 3 3 = nI V) (hV8 : V ≤ 8) (a b : Int32) (l : Launch) (hl : l.stackTraces = false) (ad : Nat → Nat) : Met l yL_look (Cond.codeWith yL_look cL_look 5 (some .int) zhh :: zm_T) (zm_rm 9 1 6) (zm_Px g ad [.ref 0, .int a, .int b, .ref 135] (zSH, gi, gl, zRT r)) (zm_Qc g ad 136 (zm_pi zSH (zPLL V a b gi gl r))) 1 6 (zm_A g) := by
  refine va_MetW (cc := cL_look) (maxL := 5) (ret := some .int) (hh := zhh) (by decide) rfl ?_
  intro p e s m args below meth c s₁ B hml hv
  obtain ⟨rfl, hG, hw, hX, hLX⟩ := hv
  have hts := atoms_spec (ws := Cond.codeWith yL_look cL_look 5 (some .int) zhh :: zm_T) B.pre
  have hown : s.vm.findClass yL_look.cls = some m.cls := findClass_of_methodNamed B.named
  have htab : c.exceptionTable.toList = tableOf zhh := vx_table (x := yL_look) B (hts _ List.mem_cons_self)
  rw [lg_entry_eq]
  obtain ⟨x, hx⟩ : ∃ x : zm_X, x = (p, l, e, (headSpec (Cond.codeWith yL_look cL_look 5 (some .int) zhh :: zm_T) (zm_rm 9 1 6)).room, s, m, ([Value.ref 0, .int a, .int b, .ref 135].map (zm_c ad)).toArray, below, meth, c, ad, 136) := ⟨_, rfl⟩
  have F : zm_fix x g mL_look 9 1 6 := by
    rw [hx]
    exact ⟨B.exec, B.bytes, hml, hown, fun w hw => hts w (List.mem_cons_of_mem _ hw), Nat.le_refl _, Nat.le_refl _, rfl, rfl, hG, hw.1, hw.2.1, B.notSynchronized, B.returns⟩
  have key : zA x g mL_look 9 1 6 (zm_Qx g x 1 6 (zm_pi zSH (zPLL V a b gi gl r))) 0 0 0 [some (.ref 0), some (.int a), some (.int b), some (.ref 135), none] [] (zSH, gi, gl, zRT r) := by
    have hl : x.l.stackTraces = false := by rw [hx]; exact hl
    have hX : zm_GX g x.s := by rw [hx]; exact hX
    have hLX : zLX x.s := by rw [hx]; exact hLX
    have htab : x.c.exceptionTable.toList = tableOf zhh := by rw [hx]; exact htab
    have fin : ∀ (pc pc2 : Nat) (n : Nat), n = 1 ∨ n = 2 → decode cL_look pc = .ok (.iconst n, 1) → decode cL_look (pc + 1) = .ok (.ireturn, 1) → zPLL V a b gi gl r (nI n) gi gl (zRT r) → zA x g mL_look 9 1 6 (zm_Qx g x 1 6 (zm_pi zSH (zPLL V a b gi gl r))) (0 + 1) (0 + 6) pc [some (.ref 0), some (.int a), some (.int b), some (.ref 135), none] [] (zSH, gi, gl, zRT r) := fun pc _ n hn d1 d2 hp => by
      rcases hn with rfl | rfl
      · exact zA_iconst (nI 1) d1 ic_1 (zA_iret rfl d2 ⟨_, gi, gl, zRT r, rfl, rfl, hp⟩)
      · exact zA_iconst (nI 2) d1 ic_2 (zA_iret rfl d2 ⟨_, gi, gl, zRT r, rfl, rfl, hp⟩)
    refine zA_aload_3 dL_look_0 ?_
    refine zA_iconst (nI 0) dL_look_1 ic_0 ?_
    refine zA_aload_0 dL_look_2 ?_
    refine zA_iload_1 dL_look_3 ?_
    refine zA_iload_2 dL_look_4 ?_
    refine zA_lk (V := V) hl hX hLX (ct_look g gi gl r hV hV8 a b) (zm_inT 1094 (by decide +kernel) (by decide +kernel)) dL_look_5 (by decide) (by decide) (by decide) (by simp [Value.category]) rfl (fun z gi' gl' gr' hp => ?_) (fun E cell q ad2 H1 locs1 ls hpx F2 hn2 b1 b2 b3 b4 b5 hcell hcv hcl => ?_)
    · obtain ⟨⟨o1, o2⟩, rfl, rfl, rfl, rfl⟩ := hp
      refine zA_i2l dL_look_8 ?_
      refine zA_last 0 sh_135 dL_look_9 rfl (by decide) (by decide) ?_
      refine zA_goto 21 dL_look_10 (by decide) ?_
      refine zA_iconst (nI 0) dL_look_21 ic_0 ?_
      exact zA_iret rfl dL_look_22 ⟨_, _, _, _, rfl, rfl, rfl, rfl, Or.inl ⟨o1, o2, rfl, rfl⟩⟩
    · have store : ∀ (pc : Nat) (d : decode cL_look pc = .ok (.astore 4, 2)), zA x g mL_look 9 1 6 (zm_Qx g x 1 6 (zm_pi zSH (zPLL V a b gi gl r))) (0 + 1) (0 + 6) (pc + 2) [some (.ref 0), some (.int a), some (.int b), some (.ref 135), none] [] (zSH, gi, gl, zRT r) → W x.p x.l x.e x.R x.s x.m x.args x.below x.meth x.c H1 locs1 (0 + 1) (0 + 6) (zm_Qx g x 1 6 (zm_pi zSH (zPLL V a b gi gl r))) (F0 x.m pc ls [.ref q]) := fun pc d k =>
        lv_astore F2.1 F2.2.1 d (zm_as_has b5) (zm_ltl (i := 4) (by simp)) rfl (fun ls2 h9 => k F2 hn2 ad2 H1 locs1 ls2 b1 b2 b3 b4 (zm_L_drop h9 (fun j u e hj => by
          have : j = 3 := by omega
          subst this
          cases hj
          rfl) (fun u hu => by cases hu) rfl))
      rcases hpx with ⟨rfl, o1⟩ | ⟨rfl, o1, o2⟩
      · exact vx_catch (own := RL) (name := "java/lang/IndexOutOfBoundsException") F2.2.2.2.1 [] { startPc := 0, endPc := 10, handlerPc := 13, catchType := 13 } [{ startPc := 0, endPc := 10, handlerPc := 17, catchType := 15 }] htab (fun z hz => nomatch hz) (by decide) (by decide) (F2.2.2.2.2.1 _ (zm_inT 1092 (by decide +kernel) (by decide +kernel))) (va_Nw.use rfl (hLX.1 _ (by decide))) hcell hcv hcl (store 13 dL_look_13 (fin 15 16 1 (Or.inl rfl) dL_look_15 dL_look_16 ⟨rfl, rfl, Or.inr (Or.inl ⟨o1, rfl, rfl⟩)⟩))
      · exact vx_catch (own := RL) (name := "java/util/NoSuchElementException") F2.2.2.2.1 [{ startPc := 0, endPc := 10, handlerPc := 13, catchType := 13 }] { startPc := 0, endPc := 10, handlerPc := 17, catchType := 15 } [] htab (fun z hz => by
          cases List.mem_singleton.mp hz
          exact Or.inr ⟨by decide, "java/lang/IndexOutOfBoundsException", F2.2.2.2.2.1 _ (zm_inT 1092 (by decide +kernel) (by decide +kernel)), hLX.2⟩) (by decide) (by decide) (F2.2.2.2.2.1 _ (zm_inT 1093 (by decide +kernel) (by decide +kernel))) (va_Nw.use rfl (hLX.1 _ (by decide))) hcell hcv hcl (store 17 dL_look_17 (fin 19 20 2 (Or.inr rfl) dL_look_19 dL_look_20 ⟨rfl, rfl, Or.inr (Or.inr ⟨o1, o2, rfl, rfl⟩)⟩))
  rw [hx] at key F
  exact key F rfl ad s.heap [] _ (fun _ _ => rfl) (Nat.le_refl _) hw va_S.rf (zm_L0_ok ad [.ref 0, .int a, .int b, .ref 135] (Nat.le_of_ble_eq_true rfl))
