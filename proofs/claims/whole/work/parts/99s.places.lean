/-! ===== making, at the law's own places ===== -/
theorem zsht {n k : Nat} {c : zm_K} (h : zSH[k]? = some c) (hk : k < n) : (zSH.take n)[k]? = some c := by
  rw [List.getElem?_take_of_lt hk]; exact h
theorem zshl {n : Nat} (h : n ≤ 136) : (zSH.take n).length = n := by
  rw [List.length_take, show zSH.length = 136 from rfl]; omega
theorem zAO_mv {u U : State} (hvm : u.vm.Alike U.vm) (h : va_AOA .int u) : va_AOA .int U := by
  obtain ⟨comp, c, k, h1, h2, h3, h4, h5⟩ := arrayOverA_spec h
  obtain ⟨k', hk, he⟩ := hvm.2.2 c k h3
  have e1 := va_idx_bare U.vm comp
  have e2 := va_idx_bare u.vm comp
  rw [hvm.bare_eq] at e1
  have hb : (U.vm.classes.findIdx? fun (z : Class) => match z.kind with | .array component _ => component == comp | _ => false) = some c := e1.symm.trans (e2.trans h2)
  have f0 : k'.kind = .array comp (.array .int) := by rw [he]; exact h4
  have f1 : U.vm.findClass (FieldType.array .int).toString = some comp := by rw [hvm.findClass]; exact h1
  have f2 : U.vm.findClass ("[" ++ (FieldType.array .int).toString) = some c := by rw [hvm.findClass]; exact h5
  unfold va_AOA Cond.before Cond.holds
  simp only [Cond.value]
  rw [f1, Option.bind_some]
  have key : ∀ w : Option Nat, w = some c → ((w.bind fun c => (U.vm.classes[c]?).map fun (z : Class) => match z.kind with | .array _ ty => decide (ty = FieldType.array .int) && decide (U.vm.findClass ("[" ++ (FieldType.array .int).toString) = some c) | _ => false) == some true) = true := by
    intro w hw
    subst hw
    simp [hk, f0, f2]
  exact key _ hb
/-- what constructors and throws want beside -/
def zm_GX (g : zm_G) (U : State) : Prop := va_AOA .int U ∧ vx_Zq Bundle.tN "UNASSIGNED_STACK" Bundle.steD (zm_A g) U g.1 ∧ vx_Zq Bundle.tN "SUPPRESSED_SENTINEL" Bundle.listD (zm_A g) U g.1
theorem zm_GX_mv {g : zm_G} {u U : State} (hvm : u.vm.Alike U.vm) (h : zm_GX g u) : zm_GX g U := ⟨zAO_mv hvm h.1, h.2.1.moved hvm, h.2.2.moved hvm⟩
def zm_CtX (g : zm_G) (y : MethodName) (Y : zm_Y) (d mc ms : Nat) (as : List Value) (M : zm_M) (post : Option Value → zm_M → Prop) : Prop :=
  ∀ (l : Launch) (ad : Nat → Nat), Met l y (zm_ws0 y Y) (zm_rm d mc ms) (va_Pc (as.map (zm_c ad)) (fun U => zm_Gl g U ∧ zm_W g ad M U.heap ∧ zm_GX g U)) (zm_Qc g ad M.1.length post) mc ms (zm_A g)
theorem zm_blindX {g : zm_G} {as : List Value} {ad : Nat → Nat} {M : zm_M} : FrameBlind (va_Pc (as.map (zm_c ad)) (fun U => zm_Gl g U ∧ zm_W g ad M U.heap ∧ zm_GX g U)) := by
  intro a U fr mk h
  obtain ⟨h1, h2, h3, h4⟩ := h
  obtain ⟨b1, b2, b3⟩ := zm_blind (g := g) (as := as) (ad := ad) (M := M) a U fr mk ⟨h1, h2, h3⟩
  exact ⟨b1, b2, b3, zm_GX_mv (u := U) (U := U.calling fr mk a) (Vm.Alike.refl U.vm) h4⟩
theorem zm_CtX_of {g : zm_G} {y : MethodName} {Y : zm_Y} {d mc ms : Nat} {as : List Value} {M : zm_M} {post : Option Value → zm_M → Prop} (L : List (Option Value)) (hy : plainName y.cls = true) (hcls : y.cls = Y.2.1) (hL : zm_L0 as Y.2.2.1 = L) (hn : (zm_sl as).length ≤ Y.2.2.1)
    (k : ∀ x : zm_X, x.n = M.1.length → x.meth.name = y.name → zm_GX g x.s → zA x g Y d mc ms (zm_Qx g x mc ms post) 0 0 0 L [] M) : zm_CtX g y Y d mc ms as M post := by
  intro l ad
  refine Met.ofW (cc := Y.1) (maxL := Y.2.2.1) (ret := Y.2.2.2) hy rfl ?_
  intro p e s m args below meth c s₁ B hml hv
  obtain ⟨rfl, hG, hw, hX⟩ := hv
  have hts := atoms_spec (ws := zm_ws0 y Y) B.pre
  have hown : s.vm.findClass y.cls = some m.cls := findClass_of_methodNamed B.named
  have hin : meth.name = y.name := (name_of_methodNamed B.named B.method).1
  rw [lg_entry_eq]
  have hk := k (p, l, e, (headSpec (zm_ws0 y Y) (zm_rm d mc ms)).room, s, m, (as.map (zm_c ad)).toArray, below, meth, c, ad, M.1.length) rfl hin hX
    ⟨B.exec, B.bytes, hml, by rw [← hcls]; exact hown, fun w hw => hts w (List.mem_cons_of_mem _ hw), Nat.le_refl _, Nat.le_refl _, rfl, rfl, hG, hw.1, hw.2.1, B.notSynchronized, B.returns⟩
  refine hk ?_ ad s.heap [] _ (fun _ _ => rfl) (Nat.le_refl _) hw va_S.rf (by rw [← hL]; exact zm_L0_ok ad as hn)
  rw [← hL]
  unfold zm_L0
  rw [List.length_append, List.length_replicate]
  omega
def zm_pn (n : Nat) (P : zm_I → zm_J → zm_R → Prop) (v : Option Value) (M' : zm_M) : Prop := ∃ (gi : zm_I) (gl : zm_J) (gr : zm_R), v = none ∧ M' = (zSH.take n, gi, gl, gr) ∧ P gi gl gr
def zC_n (g : zm_G) (y : MethodName) (Y : zm_Y) (d mc ms : Nat) (as : List Value) (n : Nat) (gi : zm_I) (gl : zm_J) (gr : zm_R) (n' : Nat) (P : zm_I → zm_J → zm_R → Prop) : Prop := zm_CtX g y Y d mc ms as (zSH.take n, gi, gl, gr) (zm_pn n' P)
section ZNK
variable {x : zm_X} {g : zm_G} {y : zm_Y} {d mc ms : Nat} {Q : State → Prop} {ce sl pc : Nat} {L : List (Option Value)} {st : List Value} {gi : zm_I} {gl : zm_J} {gr : zm_R}
theorem zN_new {idx ci N n : Nat} {C : String} {T : u_T} (hn : zSH[n]? = some (.inl ci)) (hnn : n < 136) (hc : vwCl[ci]? = some (C, T, N)) (htk : ∀ j, j < N → zm_tyk (zm_tyOf ci j) = true) (hin : ∀ w ∈ u_ws C T N, w ∈ zm_T) (hcl : Cond.classLink y.2.1 idx C ∈ zm_T) (hinst : Cond.instantiable C N ∈ zm_T) (hini : Cond.initialized C ∈ zm_T) (hd : decode y.1 pc = .ok (.new idx, 3)) (hce : ce + 1 ≤ mc) (hsl : sl + N ≤ ms)
    (hO : zOkR n gr) (hrk : zm_rokL n L = true ∧ st.all (zm_rok n) = true) (hz : ∀ k, n ≤ k → gi k = fun _ => 0) (hl : ∀ k, n ≤ k → gl k = fun _ => 0)
    (k : zA x g y d mc ms Q (ce + 1) (sl + N) (pc + 3) L (.ref n :: st) (zSH.take (n + 1), gi, gl, gr)) : zA x g y d mc ms Q ce sl pc L st (zSH.take n, gi, gl, gr) := by
  have hle := zshl (n := n) (by omega)
  have ht : zSH.take (n + 1) = zSH.take n ++ [.inl ci] := by rw [List.take_add_one, hn]; rfl
  rw [ht] at k
  exact zA_new hc htk hin hcl hinst hini hd hce hsl (by rw [hle]; exact hO) (by rw [hle]; exact hrk) (by rw [hle]; unfold zm_cB; omega) (by rw [hle]; exact hz n (Nat.le_refl _)) (by rw [hle]; exact hl n (Nat.le_refl _)) (by rw [hle]; exact k)
theorem zN_newa {atype : ArrayType} {ty : FieldType} {N i n : Nat} (hn : zSH[n]? = some (.inr (ty, N))) (hnn : n < 136) (hty : newarray.typeOf atype = ty) (hp : zm_isR ty = false) (hi : (zm_tys g)[i]? = some (g.2.2.1 ty, ty)) (harr : Cond.arrayClass ty ∈ zm_T) (hd : decode y.1 pc = .ok (.newarray atype, 2)) (hN : N ≤ 100000) (hcb : componentBytes ty ≤ 8) (hce : ce + 1 ≤ mc) (hsl : sl + N ≤ ms)
    (hO : zOkR n gr) (hrk : zm_rokL n L = true ∧ st.all (zm_rok n) = true) (hz : ∀ k, n ≤ k → gi k = fun _ => 0) (hl : ∀ k, n ≤ k → gl k = fun _ => 0) (hdv : ∀ (cA : ClassId) (sh : List zm_K), vp_cell cA (zm_ar (fun q => q) (sh, (fun _ _ => 0), (fun _ _ => 0), fun _ _ => none) n ty N) = arrV cA N (fun _ => defaultValue ty))
    (k : zA x g y d mc ms Q (ce + 1) (sl + N) (pc + 2) L (.ref n :: st) (zSH.take (n + 1), gi, gl, gr)) : zA x g y d mc ms Q ce sl pc L (.int (nI N) :: st) (zSH.take n, gi, gl, gr) := by
  have hle := zshl (n := n) (by omega)
  have ht : zSH.take (n + 1) = zSH.take n ++ [.inr (ty, N)] := by rw [List.take_add_one, hn]; rfl
  rw [ht] at k
  refine zA_newa hty hp hi harr hd hN hcb hce hsl (by rw [hle]; exact hO) (by rw [hle]; exact hrk) (by rw [hle]; unfold zm_cB; omega) (by rw [hle]; exact hz n (Nat.le_refl _)) (by rw [hle]; exact hl n (Nat.le_refl _)) (fun cA => ?_) (by rw [hle]; exact k)
  rw [← hdv cA (zSH.take n ++ [.inr (ty, N)]), hle]
  congr 1
  unfold zm_ar
  cases ty <;> first | (cases hp; done) | (simp only [hz n (Nat.le_refl _), hl n (Nat.le_refl _)])
theorem zN_mna {idx N K n : Nat} (hsh : zSH.take (n + 1 + N) = zSH.take n ++ (.inr (.array .int, N) :: List.replicate N (.inr (.int, K)))) (hnn : n + 1 + N ≤ 136) (hcl : Cond.classLink y.2.1 idx "[[I" ∈ zm_T) (hov : va_AOA .int x.s) (harr : Cond.arrayClass .int ∈ zm_T) (hd : decode y.1 pc = .ok (.multianewarray idx 2, 4)) (hN : N ≤ 1000) (hK : K ≤ 1000) (hce : ce + (1 + N) ≤ mc) (hsl : sl + (N + N * K) ≤ ms)
    (hO : zOkR n gr) (hrk : zm_rokL n L = true ∧ st.all (zm_rok n) = true) (hz : ∀ k, n ≤ k → gi k = fun _ => 0)
    (k : zOkR (n + 1 + N) (va_up gr n (fun i => if i < N then some (n + 1 + i) else none)) → zA x g y d mc ms Q (ce + 1 + N) (sl + N + N * K) (pc + 4) L (.ref n :: st) (zSH.take (n + 1 + N), gi, gl, va_up gr n (fun i => if i < N then some (n + 1 + i) else none))) : zA x g y d mc ms Q ce sl pc L (.int (nI K) :: .int (nI N) :: st) (zSH.take n, gi, gl, gr) := by
  have hle := zshl (n := n) (by omega)
  have k' := k (zOkR_mna hO)
  rw [hsh] at k'
  exact zA_mna hcl hov harr hd hN hK hce hsl (by rw [hle]; exact hO) (by rw [hle]; exact hrk) (by rw [hle]; unfold zm_cB; omega) (by rw [hle]; exact hz) (by rw [hle]; exact k')
theorem zN_putR {idx ci j q r n : Nat} (hname : x.meth.name = "<init>") (hnn : n ≤ 136) (hq : zSH[q]? = some (.inl ci)) (hqn : q < n) (hr : r < n) (hf : zm_gf y.2.1 idx ci j) (hd : decode y.1 pc = .ok (.putfield idx, 3)) (hfin : zm_fin ci j y.2.1 = true) (hty : zm_isR (zm_tyOf ci j) = true) (hnest : ∀ C T N, vwCl[ci]? = some (C, T, N) → Cond.fieldLink y.2.1 idx C (T j).2.1 (T j).2.2.1 ∈ zm_T) (hO : zOkR n gr)
    (k : zOkR n (va_up gr q (va_up (gr q) j (some r))) → zA x g y d mc ms Q ce sl (pc + 3) L st (zSH.take n, gi, gl, va_up gr q (va_up (gr q) j (some r)))) : zA x g y d mc ms Q ce sl pc L (.ref r :: .ref q :: st) (zSH.take n, gi, gl, gr) := by
  have hle := zshl hnn
  exact zA_putRF hname (zsht hq hqn) hf hd hfin hty hnest (by rw [hle]; exact hO) (by rw [hle]; exact hqn) (by rw [hle]; exact hr) (fun h => k (by rw [hle] at h; exact h))
theorem zN_putRO {idx ci j q r n : Nat} (hnn : n ≤ 136) (hq : zSH[q]? = some (.inl ci)) (hqn : q < n) (hr : r < n) (hf : zm_gf y.2.1 idx ci j) (hd : decode y.1 pc = .ok (.putfield idx, 3)) (hfin : zm_nfin ci j = true) (hty : zm_isR (zm_tyOf ci j) = true) (hO : zOkR n gr)
    (k : zOkR n (va_up gr q (va_up (gr q) j (some r))) → zA x g y d mc ms Q ce sl (pc + 3) L st (zSH.take n, gi, gl, va_up gr q (va_up (gr q) j (some r)))) : zA x g y d mc ms Q ce sl pc L (.ref r :: .ref q :: st) (zSH.take n, gi, gl, gr) := by
  exact zA_putR (zsht hq hqn) hf hd hfin hty (k (zOkR_put hO hqn hr))
theorem zA_cI {M : zm_M} {post : Option Value → zm_M → Prop} {as rest st : List Value} {yc : MethodName} {by_ : ByteArray} {ow : String} {mL dc mc' ms' idx q : Nat} (hGX : zm_GX g x.s) (hc : zm_CtX g yc (by_, ow, mL, none) dc mc' ms' (.ref q :: as) M post) (hcal : zm_cal yc (by_, ow, mL, none) as.length) (hlk : zm_lk y.2.1 idx yc) (hnm : yc.name = "<init>") (hst : Cond.instanceMethod yc ∈ zm_T) (hd : decode y.1 pc = .ok (.invokespecial idx, 3)) (hdep : dc + 1 ≤ d) (hce : ce + mc' ≤ mc) (hsl : sl + ms' ≤ ms) (hcat : (rest.map fun v => v.category).sum ≤ 8)
    (hs : st = as.reverse ++ .ref q :: rest) (hok : (zm_rokL M.1.length L = true ∧ rest.all (zm_rok M.1.length) = true) ∨ ∀ v M', post v M' → M'.1.length = M.1.length) (k : ∀ v M', post v M' → zA x g y d mc ms Q (ce + mc') (sl + ms') (pc + 3) L (v.toList ++ rest) M') : zA x g y d mc ms Q ce sl pc L st M := by
  intro F hl ad H locs ls h1 h2 h3 h4 h5
  subst hs
  obtain ⟨f1, f2, f3, f4, f5, f6, f7, f8, f9, f10, f11, f12, f13, f14⟩ := id F
  have hR : dc + 1 ≤ x.R.frames ∧ 8 + (mL + 11) + 41 * dc ≤ x.R.locals := ⟨Nat.le_trans hdep f6, by have h : mL ≤ 22 := hcal.2.2.2; omega⟩
  have hp : PreS x.s H (va_Pc ((.ref q :: as).map (zm_c ad)) (fun U => zm_Gl g U ∧ zm_W g ad M U.heap ∧ zm_GX g U)) (.ref (ad q) :: as.map (zm_c ad)) := ⟨zm_blindX, fun U hU hW => ⟨rfl, zm_Gl_warm hW f10, by rw [hU]; exact h3, zm_GX_mv hW.alike hGX⟩⟩
  have hcap : ce + mc' ≤ x.R.cells ∧ sl + ms' ≤ x.R.slots := ⟨by rw [f8]; exact hce, by rw [f9]; exact hsl⟩
  have hroom : 2 * (F0 x.m pc ls ((as.reverse ++ .ref q :: rest).map (zm_c ad))).monitorRoom + ((rest.map (zm_c ad)).map fun v => v.category).sum ≤ 8 := lv_room (by rw [zm_c_cats]; exact hcat)
  rcases hlk with hlk | ⟨host, hlk⟩
  · exact zm_after (va_runI (n := as.length) (nL := y.2.2.1) (Ts := zm_T) (b := ad q) (As := as.map (zm_c ad)) (rest := rest.map (zm_c ad)) (own := y.2.1) ⟨f1, f2, f3, f4, f5⟩ (hc x.l ad) ⟨callB_of as.length f5 (zm_good yc (by_, ow, mL, none) hcal.1) rfl rfl rfl (f5 _ hcal.2.1) (f5 _ hlk) hcal.2.2.1 hR, hnm, f5 _ hst⟩ hp rfl (by rw [List.length_map]) (h5.1.trans hl) (zm_map_st ad as (.ref q :: rest)) hroom hd hcap) h4
      (fun v M' ad' H1 locs1 hpost had hn hw hS => zm_next F hl h1 h2 h5 (hok.imp id (fun z => z v M' hpost)) had hn hw hS (k v M' hpost))
  · exact zm_after (va_runIN (n := as.length) (nL := y.2.2.1) (Ts := zm_T) (b := ad q) (As := as.map (zm_c ad)) (rest := rest.map (zm_c ad)) (own := y.2.1) ⟨f1, f2, f3, f4, f5⟩ (hc x.l ad) ⟨va_cnB as.length f5 (zm_good yc (by_, ow, mL, none) hcal.1) rfl rfl rfl (f10.2.1 _ hlk) (f5 _ hcal.2.1) hcal.2.2.1 hR, hnm, f5 _ hst⟩ hp rfl (by rw [List.length_map]) (h5.1.trans hl) (zm_map_st ad as (.ref q :: rest)) hroom hd hcap) h4
      (fun v M' ad' H1 locs1 hpost had hn hw hS => zm_next F hl h1 h2 h5 (hok.imp id (fun z => z v M' hpost)) had hn hw hS (k v M' hpost))
theorem zN_cI {as rest st : List Value} {yc : MethodName} {by_ : ByteArray} {ow : String} {mL dc mc' ms' idx q n n' : Nat} {P : zm_I → zm_J → zm_R → Prop} (hGX : zm_GX g x.s) (hc : zC_n g yc (by_, ow, mL, none) dc mc' ms' (.ref q :: as) n gi gl gr n' P) (hnn : n ≤ 136) (hcal : zm_cal yc (by_, ow, mL, none) as.length) (hlk : zm_lk y.2.1 idx yc) (hnm : yc.name = "<init>") (hst : Cond.instanceMethod yc ∈ zm_T) (hd : decode y.1 pc = .ok (.invokespecial idx, 3)) (hdep : dc + 1 ≤ d) (hce : ce + mc' ≤ mc) (hsl : sl + ms' ≤ ms) (hcat : (rest.map fun v => v.category).sum ≤ 8)
    (hs : st = as.reverse ++ .ref q :: rest) (hrk : zm_rokL n L = true ∧ rest.all (zm_rok n) = true) (k : ∀ gi' gl' gr', P gi' gl' gr' → zA x g y d mc ms Q (ce + mc') (sl + ms') (pc + 3) L rest (zSH.take n', gi', gl', gr')) : zA x g y d mc ms Q ce sl pc L st (zSH.take n, gi, gl, gr) :=
  zA_cI hGX hc hcal hlk hnm hst hd hdep hce hsl hcat hs (Or.inl (by show zm_rokL (zSH.take n).length L = true ∧ _; rw [zshl hnn]; exact hrk)) (fun v M' h => by
    obtain ⟨gi', gl', gr', rfl, rfl, hp⟩ := h
    exact k gi' gl' gr' hp)
theorem zC_n_of {g : zm_G} {yc : MethodName} {y : zm_Y} {d mc ms n n' : Nat} {as : List Value} {gi : zm_I} {gl : zm_J} {gr : zm_R} {P : zm_I → zm_J → zm_R → Prop} (L : List (Option Value)) (hy : plainName yc.cls = true) (hcls : yc.cls = y.2.1) (hL : zm_L0 as y.2.2.1 = L) (hn : (zm_sl as).length ≤ y.2.2.1) (k : ∀ x : zm_X, x.meth.name = yc.name → zm_GX g x.s → zA x g y d mc ms (zm_Qx g x mc ms (zm_pn n' P)) 0 0 0 L [] (zSH.take n, gi, gl, gr)) : zC_n g yc y d mc ms as n gi gl gr n' P :=
  zm_CtX_of L hy hcls hL hn (fun x _ h h2 => k x h h2)
theorem zN_ret {n' : Nat} {P : zm_I → zm_J → zm_R → Prop} (hr : y.2.2.2 = none) (hd : decode y.1 pc = .ok (.return_, 1)) (h1 : ce ≤ mc) (h2 : sl ≤ ms) (hp : P gi gl gr) : zA x g y d mc ms (zm_Qx g x mc ms (zm_pn n' P)) ce sl pc L [] (zSH.take n', gi, gl, gr) :=
  zA_widen h1 h2 (zA_vret hr hd ⟨gi, gl, gr, rfl, rfl, hp⟩)
end ZNK
theorem oi_in : Cond.instanceMethod Lib.objectInit ∈ zm_T := zm_inT 147 (by decide +kernel) (by decide +kernel)
theorem oi_co : Cond.code Lib.objectInit ⟨#[0xb1]⟩ 1 none ∈ zm_T := zm_inT 148 (by decide +kernel) (by decide +kernel)
theorem ar_int : Cond.arrayClass .int ∈ zm_T := zm_inT 187 (by decide +kernel) (by decide +kernel)
theorem ar_byte : Cond.arrayClass .byte ∈ zm_T := zm_inT 186 (by decide +kernel) (by decide +kernel)
theorem ar_boolean : Cond.arrayClass .boolean ∈ zm_T := zm_inT 1459 (by decide +kernel) (by decide +kernel)
theorem ar_long : Cond.arrayClass .long ∈ zm_T := zm_inT 318 (by decide +kernel) (by decide +kernel)
