section ZSTC
variable {x : zm_X} {g : zm_G} {y : zm_Y} {d mc ms : Nat} {Q : State → Prop} {ce sl pc : Nat} {L : List (Option Value)} {st as rest : List Value} {sh : List zm_K} {gi : zm_I} {gl : zm_J} {gr : zm_R} {yc : MethodName} {Yc : zm_Y} {dc idx : Nat}
/-- a call whose receiver is a String of the constants -/
theorem zA_cSi' {i : Nat} {M : zm_M} {mc' ms' : Nat} {post : Option Value → zm_M → Prop} (hi : i < 5) (hc : zm_Ct g yc Yc dc mc' ms' (.ref (zm_cB + (1 + i)) :: as) M post) (hcal : zm_cal yc Yc as.length) (hlk : zm_lk y.2.1 idx yc) (hst : Cond.instanceMethod yc ∈ zm_T ∧ Cond.selects yc.cls yc yc ∈ zm_T) (hd : decode y.1 pc = .ok (.invokevirtual idx, 3)) (hdep : dc + 1 ≤ d) (hce : ce + mc' ≤ mc) (hsl : sl + ms' ≤ ms) (hcat : (rest.map fun v => v.category).sum ≤ 8)
    (hs : st = as.reverse ++ .ref (zm_cB + (1 + i)) :: rest) (hcl : yc.cls = "java/lang/String") (hok : (zm_rokL M.1.length L = true ∧ rest.all (zm_rok M.1.length) = true) ∨ ∀ v M', post v M' → M'.1.length = M.1.length) (k : ∀ v M', post v M' → zA x g y d mc ms Q (ce + mc') (sl + ms') (pc + 3) L (v.toList ++ rest) M') : zA x g y d mc ms Q ce sl pc L st M := by
  intro F hl ad H locs ls h1 h2 h3 h4 h5
  subst hs
  obtain ⟨f1, f2, f3, f4, f5, f6, f7, f8, f9, f10, f11, f12, f13, f14⟩ := id F
  have hR : dc + 1 ≤ x.R.frames ∧ 8 + (Yc.2.2.1 + 11) + 41 * dc ≤ x.R.locals := ⟨Nat.le_trans hdep f6, by have := hcal.2.2.2; omega⟩
  have hE := (F.2.2.2.2.2.2.2.2.2.1.2.2.2.2.2.2.1).kept (zm_old (a := 0) F)
  have hrecv := vk_recv hE hi h4
  rw [← hcl] at hrecv
  have ea : ad (zm_cB + (1 + i)) = g.2.2.2 (1 + i) := h3.2.2.2.2.1 (1 + i)
  have hrecv2 : ∃ cell : Cell, H[ad (zm_cB + (1 + i))]? = some cell ∧ cell.vm.isStatics = false ∧ x.s.vm.findClass yc.cls = some cell.cls := by rw [ea]; exact hrecv
  generalize hq : zm_cB + (1 + i) = q at *
  have hp : PreV x.s H yc.cls (ad q) (va_Pc ((.ref q :: as).map (zm_c ad)) (fun U => zm_Gl g U ∧ zm_W g ad M U.heap)) (as.map (zm_c ad)) := ⟨zm_blind, hrecv2, fun U hU hW => ⟨rfl, zm_Gl_warm hW f10, by rw [hU]; exact h3⟩⟩
  have hcap : ce + mc' ≤ x.R.cells ∧ sl + ms' ≤ x.R.slots := ⟨by rw [f8]; exact hce, by rw [f9]; exact hsl⟩
  have hroom : 2 * (F0 x.m pc ls ((as.reverse ++ .ref q :: rest).map (zm_c ad))).monitorRoom + ((rest.map (zm_c ad)).map fun v => v.category).sum ≤ 8 := lv_room (by rw [zm_c_cats]; exact hcat)
  rcases hlk with hlk | ⟨host, hlk⟩
  · exact zm_after (va_runV (n := as.length) (nL := y.2.2.1) (Ts := zm_T) (C := yc.cls) (b := ad q) (As := as.map (zm_c ad)) (rest := rest.map (zm_c ad)) (own := y.2.1) ⟨f1, f2, f3, f4, f5⟩ (hc x.l ad) ⟨callB_of as.length f5 (zm_good yc Yc hcal.1) rfl rfl rfl (f5 _ hcal.2.1) (f5 _ hlk) hcal.2.2.1 hR, f5 _ hst.1, f5 _ hst.2⟩ hp rfl (by rw [List.length_map]) (h5.1.trans hl) (zm_map_st ad as (.ref q :: rest)) hroom hd hcap) h4
      (fun v M' ad' H1 locs1 hpost had hn hw hS => zm_next F hl h1 h2 h5 (hok.imp id (fun z => z v M' hpost)) had hn hw hS (k v M' hpost))
  · exact zm_after (va_runVN (n := as.length) (nL := y.2.2.1) (Ts := zm_T) (C := yc.cls) (b := ad q) (As := as.map (zm_c ad)) (rest := rest.map (zm_c ad)) (own := y.2.1) ⟨f1, f2, f3, f4, f5⟩ (hc x.l ad) ⟨va_cnB as.length f5 (zm_good yc Yc hcal.1) rfl rfl rfl (f10.2.1 _ hlk) (f5 _ hcal.2.1) hcal.2.2.1 hR, f5 _ hst.1, f5 _ hst.2⟩ hp rfl (by rw [List.length_map]) (h5.1.trans hl) (zm_map_st ad as (.ref q :: rest)) hroom hd hcap) h4
      (fun v M' ad' H1 locs1 hpost had hn hw hS => zm_next F hl h1 h2 h5 (hok.imp id (fun z => z v M' hpost)) had hn hw hS (k v M' hpost))
theorem zA_cTi {P : Int32 → zm_I → zm_J → zm_R → Prop} {i : Nat} (hi : i < 5) (hc : zC_i g yc Yc dc (.ref (zm_cB + (1 + i)) :: as) sh gi gl gr P) (hcal : zm_cal yc Yc as.length) (hst : Cond.instanceMethod yc ∈ zm_T ∧ Cond.selects yc.cls yc yc ∈ zm_T) (hlk : zm_lk y.2.1 idx yc) (hd : decode y.1 pc = .ok (.invokevirtual idx, 3)) (hdep : dc + 1 ≤ d) (hcat : (rest.map fun v => v.category).sum ≤ 8) (hs : st = as.reverse ++ .ref (zm_cB + (1 + i)) :: rest) (hce : ce ≤ mc) (hsl : sl ≤ ms) (hcl : yc.cls = "java/lang/String")
    (k : ∀ r gi' gl' gr', P r gi' gl' gr' → zA x g y d mc ms Q ce sl (pc + 3) L (.int r :: rest) (sh, gi', gl', gr')) : zA x g y d mc ms Q ce sl pc L st (sh, gi, gl, gr) :=
  zA_cSi' (post := zm_pi sh P) (mc' := 0) (ms' := 0) hi hc hcal hlk hst hd hdep hce hsl hcat hs hcl (Or.inr (fun v M' h => by obtain ⟨_, _, _, _, -, rfl, -⟩ := h; rfl)) (fun v M' h => by obtain ⟨r, gi', gl', gr', rfl, rfl, h⟩ := h; exact k r gi' gl' gr' h)
theorem zA_i2c {a v : Int32} {M : zm_M} (hd : decode y.1 pc = .ok (.i2c, 1)) (hv : (a.toUInt32 % 65536).toInt32 = v) (k : zA x g y d mc ms Q ce sl (pc + 1) L (.int v :: st) M) : zA x g y d mc ms Q ce sl pc L (.int a :: st) M :=
  fun F hn ad H locs ls h1 h2 h3 h4 h5 => lv_i2c F.1 F.2.1 hd hv (k F hn ad H locs ls h1 h2 h3 h4 h5)
end ZSTC
