/-! ===== making cells ===== -/
def zOkR (n : Nat) (gr : zm_R) : Prop := (∀ k j i, gr k j = some i → i < n) ∧ ∀ k, n ≤ k → gr k = fun _ => none
theorem zm_ce_cg {g : zm_G} {ad ad' : Nat → Nat} {M M' : zm_M} {k : Nat} (h1 : M'.2.1 k = M.2.1 k) (h2 : M'.2.2.1 k = M.2.2.1 k) (h3 : ∀ j, (M'.2.2.2 k j).map ad' = (M.2.2.2 k j).map ad) (c : zm_K) : zm_ce g ad' M' k c = zm_ce g ad M k c := by
  have hv : ∀ j ty, zm_val ad' M' k j ty = zm_val ad M k j ty := fun j ty => by
    unfold zm_val
    cases ty <;> simp only [h1, h2, h3]
  cases c with
  | inl ci =>
    show (Sum.inr (ci, zm_fs ad' M' k ci) : va_E) = Sum.inr (ci, zm_fs ad M k ci)
    unfold zm_fs
    rw [List.map_congr_left (fun j _ => hv j (zm_tyOf ci j))]
  | inr q =>
    obtain ⟨ty, n⟩ := q
    show (Sum.inl (g.2.2.1 ty, zm_ar ad' M' k ty n) : va_E) = Sum.inl (g.2.2.1 ty, zm_ar ad M k ty n)
    have : zm_ar ad' M' k ty n = zm_ar ad M k ty n := by
      unfold zm_ar
      cases ty <;> simp only [h1, h2, h3]
    rw [this]
theorem zm_mI_app {α β : Type} (f : Nat → α → β) (l : List α) (r : List α) : (l ++ r).mapIdx f = l.mapIdx f ++ r.mapIdx (fun i a => f (l.length + i) a) := by
  apply List.ext_getElem?
  intro i
  rw [List.getElem?_mapIdx]
  by_cases h : i < l.length
  · rw [List.getElem?_append_left h, List.getElem?_append_left (by rw [List.length_mapIdx]; exact h), List.getElem?_mapIdx]
  · rw [List.getElem?_append_right (by omega), List.getElem?_append_right (by rw [List.length_mapIdx]; omega), List.length_mapIdx, List.getElem?_mapIdx, show l.length + (i - l.length) = i by omega]
/-- the world with more cells: those that stood are as they were -/
theorem zm_ws_app {g : zm_G} {ad ad' : Nat → Nat} {sh cs : List zm_K} {gi gi' : zm_I} {gl gl' : zm_J} {gr gr' : zm_R} (had : ∀ k, k < sh.length → ad' k = ad k) (hO : zOkR sh.length gr) (hg : ∀ k, k < sh.length → gi' k = gi k ∧ gl' k = gl k ∧ gr' k = gr k) :
    zm_ws g ad' (sh ++ cs, gi', gl', gr') = zm_ws g ad (sh, gi, gl, gr) ++ cs.mapIdx (fun i c => (ad' (sh.length + i), zm_ce g ad' (sh ++ cs, gi', gl', gr') (sh.length + i) c)) := by
  unfold zm_ws
  show (sh ++ cs).mapIdx _ = sh.mapIdx _ ++ _
  rw [zm_mI_app]
  congr 1
  apply List.ext_getElem?
  intro i
  rw [List.getElem?_mapIdx, List.getElem?_mapIdx]
  cases h : sh[i]? with
  | none => rfl
  | some c =>
    have hi : i < sh.length := (List.getElem?_eq_some_iff.mp h).1
    obtain ⟨e1, e2, e3⟩ := hg i hi
    show some (ad' i, zm_ce g ad' (sh ++ cs, gi', gl', gr') i c) = some (ad i, zm_ce g ad (sh, gi, gl, gr) i c)
    rw [had i hi, zm_ce_cg (M := (sh, gi, gl, gr)) (ad := ad) e1 e2 (fun j => by
      show (gr' i j).map ad' = (gr i j).map ad
      rw [e3]
      cases hq : gr i j with
      | none => rfl
      | some v => show some (ad' v) = some (ad v); rw [had v (hO.1 i j v hq)]) c]
section ZMK
variable {x : zm_X} {g : zm_G} {y : zm_Y} {d mc ms : Nat} {Q : State → Prop} {ce sl pc : Nat} {L : List (Option Value)} {st : List Value} {sh : List zm_K} {gi : zm_I} {gl : zm_J} {gr : zm_R}
theorem zm_more {ad ad' : Nat → Nat} {H H1 : Heap} {locs : List Loc} {ls : Array Slot} {cs : List zm_K} {gr' : zm_R} {v : Value} {ce' sl' pc' : Nat} (F : zm_fix x g y d mc ms) (hl : L.length = y.2.2.1) (h1 : ∀ k, (k < x.n ∨ sh.length ≤ k) → ad k = x.ad k) (h2 : x.n ≤ sh.length) (h3 : zm_W g ad (sh, gi, gl, gr) H) (h4 : va_S (zm_A g) x.s.heap H1 locs) (h5 : zm_L ad L ls)
    (had : ∀ k, (k < sh.length ∨ sh.length + cs.length ≤ k) → ad' k = ad k) (hB : sh.length + cs.length ≤ zm_cB) (hrk : zm_rokL sh.length L = true ∧ st.all (zm_rok sh.length) = true)
    (hP : va_P g.2.1 vwCl (zm_ws g ad' (sh ++ cs, gi, gl, gr')) H1) (hD : va_D (zm_A g) (zm_ws g ad' (sh ++ cs, gi, gl, gr')))
    (k : zA x g y d mc ms Q ce' sl' pc' L (v :: st) (sh ++ cs, gi, gl, gr')) : W x.p x.l x.e x.R x.s x.m x.args x.below x.meth x.c H1 locs ce' sl' Q (F0 x.m pc' ls (zm_c ad' v :: st.map (zm_c ad))) := by
  have hk := k F hl ad' H1 locs ls (fun q hq => by
    have hlen : (sh ++ cs, gi, gl, gr').1.length = sh.length + cs.length := List.length_append
    rw [hlen] at hq
    rcases hq with hq | hq
    · rw [had q (Or.inl (by omega))]; exact h1 q (Or.inl hq)
    · rw [had q (Or.inr hq)]; exact h1 q (Or.inr (by omega))) (by show x.n ≤ (sh ++ cs).length; rw [List.length_append]; omega)
    ⟨Nat.le_trans F.2.2.2.2.2.2.2.2.2.2.1 h4.1, fun q hq => (h4.2.1 q (Nat.lt_of_lt_of_le hq F.2.2.2.2.2.2.2.2.2.2.1) (Nat.not_le.mpr hq)).trans (F.2.2.2.2.2.2.2.2.2.2.2.1 q hq), hP, hD, fun i => by rw [had (zm_cB + i) (Or.inr (by omega))]; exact h3.2.2.2.2.1 i, by show (sh ++ cs).length ≤ zm_cB; rw [List.length_append]; exact hB⟩ h4 (zm_L_same had hB hrk.1 h5)
  rw [List.map_cons, zm_cs_same had hB hrk.2] at hk
  exact hk
theorem zOkR_mono {n n' : Nat} (h : zOkR n gr) (hn : n ≤ n') : zOkR n' gr := ⟨fun k j i q => Nat.lt_of_lt_of_le (h.1 k j i q) hn, fun k hk => h.2 k (Nat.le_trans hn hk)⟩
theorem zOkR_put {n q j r : Nat} (h : zOkR n gr) (hq : q < n) (hr : r < n) : zOkR n (va_up gr q (va_up (gr q) j (some r))) := ⟨fun k i v e => by
  by_cases hk : k = q
  · subst hk
    rw [va_up_self] at e
    by_cases hi : i = j
    · subst hi
      rw [va_up_self] at e
      cases e
      exact hr
    · rw [zm_une hi] at e
      exact h.1 k i v e
  · rw [zm_une hk] at e
    exact h.1 k i v e, fun k hk => (zm_une (by omega)).trans (h.2 k hk)⟩
theorem zOkR_mna {n N : Nat} (h : zOkR n gr) : zOkR (n + 1 + N) (va_up gr n (fun i => if i < N then some (n + 1 + i) else none)) := ⟨fun k i v e => by
  by_cases hk : k = n
  · subst hk
    rw [va_up_self] at e
    by_cases hi : i < N
    · have e2 : (if i < N then some (k + 1 + i) else none) = some v := e
      rw [if_pos hi] at e2
      cases e2
      omega
    · have e2 : (if i < N then some (k + 1 + i) else none) = some v := e
      rw [if_neg hi] at e2
      cases e2
  · rw [zm_une hk] at e
    have := h.1 k i v e
    omega, fun k hk => (zm_une (by omega)).trans (h.2 k (by omega))⟩
def zm_tyk (ty : FieldType) : Bool := match ty with
  | .double => false
  | .float => false
  | _ => true
theorem zA_new {idx ci N : Nat} {C : String} {T : u_T} (hc : vwCl[ci]? = some (C, T, N)) (htk : ∀ j, j < N → zm_tyk (zm_tyOf ci j) = true) (hin : ∀ w ∈ u_ws C T N, w ∈ zm_T) (hcl : Cond.classLink y.2.1 idx C ∈ zm_T) (hinst : Cond.instantiable C N ∈ zm_T) (hini : Cond.initialized C ∈ zm_T) (hd : decode y.1 pc = .ok (.new idx, 3)) (hce : ce + 1 ≤ mc) (hsl : sl + N ≤ ms)
    (hO : zOkR sh.length gr) (hrk : zm_rokL sh.length L = true ∧ st.all (zm_rok sh.length) = true) (hB : sh.length < zm_cB) (hg0 : gi sh.length = fun _ => 0) (hl0 : gl sh.length = fun _ => 0)
    (k : zA x g y d mc ms Q (ce + 1) (sl + N) (pc + 3) L (.ref sh.length :: st) (sh ++ [.inl ci], gi, gl, gr)) : zA x g y d mc ms Q ce sl pc L st (sh, gi, gl, gr) := by
  intro F hl ad H locs ls h1 h2 h3 h4 h5
  have hr0 := hO.2 sh.length (Nat.le_refl _)
  have hv : ∀ j, j < N → zm_val ad (sh ++ [.inl ci], gi, gl, gr) sh.length j (zm_tyOf ci j) = defaultValue (zm_tyOf ci j) := fun j hj => by
    have h9 := htk j hj
    unfold zm_val
    cases h : zm_tyOf ci j <;> first | (rw [h] at h9; cases h9; done) | simp [hg0, hl0, hr0, va_rf, defaultValue]
  refine va_new (own := y.2.1) F.1 F.2.1 F.2.2.2.2.1 hin (zm_tyOf ci) (zm_tyOf_ok ci hc) F.2.2.2.1 (F.2.2.2.2.1 _ hcl) (F.2.2.2.2.1 _ hinst) (F.2.2.2.2.1 _ hini) F.2.2.2.2.2.2.2.2.2.1.1 h3.2.2.1 h3.2.2.2.1 h4 (fun q hq => Nat.le_trans F.2.2.2.2.2.2.2.2.2.2.1 hq) hc (fs := zm_fs ad (sh ++ [.inl ci], gi, gl, gr) sh.length ci) (fun j hj => ?_) (by rw [F.2.2.2.2.2.2.2.1]; exact hce) (by rw [F.2.2.2.2.2.2.2.2.1]; exact hsl) hd (fun q H1 hP hD hS => ?_)
  · unfold vp_V
    rw [List.getD_eq_getElem?_getD, zm_fs_at (by rw [zm_nf_eq hc]; exact hj)]
    exact (hv j hj).symm
  · have had : ∀ k, (k < sh.length ∨ sh.length + 1 ≤ k) → va_up ad sh.length q k = ad k := fun k hk => zm_une (by omega)
    have he : zm_ws g (va_up ad sh.length q) (sh ++ [.inl ci], gi, gl, gr) = zm_ws g ad (sh, gi, gl, gr) ++ [(q, .inr (ci, zm_fs ad (sh ++ [.inl ci], gi, gl, gr) sh.length ci))] := by
      rw [zm_ws_app (fun k hk => had k (Or.inl hk)) hO (fun _ _ => ⟨rfl, rfl, rfl⟩)]
      congr 1
      show [(va_up ad sh.length q (sh.length + 0), zm_ce g (va_up ad sh.length q) (sh ++ [.inl ci], gi, gl, gr) (sh.length + 0) (.inl ci))] = _
      have e9 : zm_ce g (va_up ad sh.length q) (sh ++ [.inl ci], gi, gl, gr) sh.length (.inl ci) = zm_ce g ad (sh ++ [.inl ci], gi, gl, gr) sh.length (.inl ci) := zm_ce_cg (g := g) (M := (sh ++ [.inl ci], gi, gl, gr)) (M' := (sh ++ [.inl ci], gi, gl, gr)) (ad := ad) rfl rfl (fun j => by show (gr sh.length j).map _ = (gr sh.length j).map _; rw [hr0]; rfl) (.inl ci)
      rw [Nat.add_zero, va_up_self, e9]
      rfl
    rw [← he] at hP hD
    have hk := zm_more (v := .ref sh.length) F hl h1 h2 h3 hS h5 (cs := [.inl ci]) had (show sh.length + 1 ≤ zm_cB by omega) hrk hP hD k
    have e : zm_c (va_up ad sh.length q) (.ref sh.length) = .ref q := by show Value.ref (va_up ad sh.length q sh.length) = _; rw [va_up_self]
    rw [e] at hk
    exact hk
theorem zm_RA {U : State} {c c' : ClassId} {ty : FieldType} (hp : zm_isR ty = false ∨ ty = .array .int) (h : va_RA U c ty) (h' : va_RA U c' ty) : c = c' := by
  have e : ∀ a, va_RA U a ty → U.vm.findClass ("[" ++ ty.toString) = some a := fun a ha => by
    cases ty with
    | object C => rcases hp with q | q <;> cases q
    | _ => exact ha
  exact Option.some.inj ((e c h).symm.trans (e c' h'))
theorem zA_newa {atype : ArrayType} {ty : FieldType} {N i : Nat} (hty : newarray.typeOf atype = ty) (hp : zm_isR ty = false) (hi : (zm_tys g)[i]? = some (g.2.2.1 ty, ty)) (harr : Cond.arrayClass ty ∈ zm_T) (hd : decode y.1 pc = .ok (.newarray atype, 2)) (hN : N ≤ 100000) (hcb : componentBytes ty ≤ 8) (hce : ce + 1 ≤ mc) (hsl : sl + N ≤ ms)
    (hO : zOkR sh.length gr) (hrk : zm_rokL sh.length L = true ∧ st.all (zm_rok sh.length) = true) (hB : sh.length < zm_cB) (hg0 : gi sh.length = fun _ => 0) (hl0 : gl sh.length = fun _ => 0) (hdv : ∀ cA : ClassId, vp_cell cA (zm_ar (fun q => q) (sh ++ [.inr (ty, N)], gi, gl, gr) sh.length ty N) = arrV cA N (fun _ => defaultValue ty))
    (k : zA x g y d mc ms Q (ce + 1) (sl + N) (pc + 2) L (.ref sh.length :: st) (sh ++ [.inr (ty, N)], gi, gl, gr)) : zA x g y d mc ms Q ce sl pc L (.int (nI N) :: st) (sh, gi, gl, gr) := by
  intro F hl ad H locs ls h1 h2 h3 h4 h5
  have har : ∀ ad', zm_ar ad' (sh ++ [.inr (ty, N)], gi, gl, gr) sh.length ty N = zm_ar (fun q => q) (sh ++ [.inr (ty, N)], gi, gl, gr) sh.length ty N := fun ad' => by
    unfold zm_ar
    cases ty <;> first | rfl | cases hp
  refine va_newa F.1 F.2.1 (by rw [hty]; exact F.2.2.2.2.1 _ harr) hty F.2.2.2.2.2.2.2.2.2.1.1 h3.2.2.1 h3.2.2.2.1 h4 (fun q hq => Nat.le_trans F.2.2.2.2.2.2.2.2.2.2.1 hq) hdv (fun q => absurd q (Int32.not_lt.mpr (nI_pos' (by omega)))) (nI_clamp (by omega)) (Nat.le_trans (Nat.mul_le_mul hN hcb) (by decide)) (by rw [F.2.2.2.2.2.2.2.1]; exact hce) (by rw [F.2.2.2.2.2.2.2.2.1]; exact hsl) hd (fun q cA H1 hK hP hD hS => ?_)
  have hcA : cA = g.2.2.1 ty := zm_RA (Or.inl hp) (hK.2 (zm_tys g).length (cA, ty) (by rw [List.getElem?_append_right (Nat.le_refl _), Nat.sub_self]; rfl)).2 (F.2.2.2.2.2.2.2.2.2.1.1.2 i _ hi).2
  subst hcA
  have had : ∀ k, (k < sh.length ∨ sh.length + 1 ≤ k) → va_up ad sh.length q k = ad k := fun k hk => zm_une (by omega)
  have he : zm_ws g (va_up ad sh.length q) (sh ++ [.inr (ty, N)], gi, gl, gr) = zm_ws g ad (sh, gi, gl, gr) ++ [(q, .inl (g.2.2.1 ty, zm_ar (fun q => q) (sh ++ [.inr (ty, N)], gi, gl, gr) sh.length ty N))] := by
    rw [zm_ws_app (fun k hk => had k (Or.inl hk)) hO (fun _ _ => ⟨rfl, rfl, rfl⟩)]
    congr 1
    show [(va_up ad sh.length q (sh.length + 0), (Sum.inl (g.2.2.1 ty, zm_ar (va_up ad sh.length q) (sh ++ [.inr (ty, N)], gi, gl, gr) (sh.length + 0) ty N) : va_E))] = _
    rw [Nat.add_zero, va_up_self, har]
  rw [← he] at hP hD
  have hk := zm_more (v := .ref sh.length) F hl h1 h2 h3 hS h5 (cs := [.inr (ty, N)]) had (show sh.length + 1 ≤ zm_cB by omega) hrk hP hD k
  have e : zm_c (va_up ad sh.length q) (.ref sh.length) = .ref q := by show Value.ref (va_up ad sh.length q sh.length) = _; rw [va_up_self]
  rw [e] at hk
  exact hk
/-- new int[N][K] -/
theorem zA_mna {idx N K : Nat} (hcl : Cond.classLink y.2.1 idx "[[I" ∈ zm_T) (hov : va_AOA .int x.s) (harr : Cond.arrayClass .int ∈ zm_T) (hd : decode y.1 pc = .ok (.multianewarray idx 2, 4)) (hN : N ≤ 1000) (hK : K ≤ 1000) (hce : ce + (1 + N) ≤ mc) (hsl : sl + (N + N * K) ≤ ms)
    (hO : zOkR sh.length gr) (hrk : zm_rokL sh.length L = true ∧ st.all (zm_rok sh.length) = true) (hB : sh.length + (1 + N) ≤ zm_cB) (hg0 : ∀ k, sh.length ≤ k → gi k = fun _ => 0)
    (k : zA x g y d mc ms Q (ce + 1 + N) (sl + N + N * K) (pc + 4) L (.ref sh.length :: st) (sh ++ (.inr (.array .int, N) :: List.replicate N (.inr (.int, K))), gi, gl, va_up gr sh.length (fun i => if i < N then some (sh.length + 1 + i) else none))) : zA x g y d mc ms Q ce sl pc L (.int (nI K) :: .int (nI N) :: st) (sh, gi, gl, gr) := by
  intro F hl ad H locs ls h1 h2 h3 h4 h5
  have hKt := F.2.2.2.2.2.2.2.2.2.1.1
  have hcy := (hKt.2 0 _ rfl).2
  refine va_mna (X := zm_ws g ad (sh, gi, gl, gr)) (L := []) (f := fun _ => .inl (g.2.2.1 .int, (0, .inl (fun _ => 0)))) (own := y.2.1) (z := (K, .inl (fun _ => 0))) F.1 F.2.1 F.2.2.2.1 (F.2.2.2.2.1 _ hcl) hov (F.2.2.2.2.1 _ harr) hcy hKt (by show va_P _ _ (zm_ws g ad (sh, gi, gl, gr) ++ []) _; rw [List.append_nil]; exact h3.2.2.1) (by show va_D _ (zm_ws g ad (sh, gi, gl, gr) ++ []); rw [List.append_nil]; exact h3.2.2.2.1) h4 (fun q hq => Nat.le_trans F.2.2.2.2.2.2.2.2.2.2.1 hq) (fun q => absurd q (Int32.not_lt.mpr (nI_pos' (by omega)))) (fun q => absurd q (Int32.not_lt.mpr (nI_pos' (by omega)))) (nI_clamp (by omega)) (nI_clamp (by omega)) (by omega) (Nat.le_trans (Nat.mul_le_mul hK (show componentBytes .int ≤ 8 by decide)) (by decide)) (by omega) rfl rfl (by rw [F.2.2.2.2.2.2.2.1]; exact hce) (by rw [F.2.2.2.2.2.2.2.2.1]; exact hsl) (fun c => ?_) hd (fun q r cA H1 hinj hnl hK2 hP hD hS => ?_)
  · show ({ cls := c, slots := Array.replicate K (.int 0), vm := .none } : Cell) = _
    rw [arrV_new]
    rfl
  · have hcA : cA = g.2.2.1 (.array .int) := zm_RA (Or.inr rfl) (hK2.2 (zm_tys g).length (cA, .array .int) (by rw [List.getElem?_append_right (Nat.le_refl _), Nat.sub_self]; rfl)).2 (hKt.2 4 _ rfl).2
    subst hcA
    have had : ∀ k, (k < sh.length ∨ sh.length + (1 + N) ≤ k) → (fun k => if k = sh.length then q else if sh.length < k ∧ k < sh.length + 1 + N then r (k - (sh.length + 1)) else ad k) k = ad k := fun k hk => by
      show (if k = sh.length then q else if sh.length < k ∧ k < sh.length + 1 + N then r (k - (sh.length + 1)) else ad k) = ad k
      rw [if_neg (by omega), if_neg (by omega)]
    have adn : (fun k => if k = sh.length then q else if sh.length < k ∧ k < sh.length + 1 + N then r (k - (sh.length + 1)) else ad k) sh.length = q := if_pos rfl
    have adi : ∀ i, i < N → (fun k => if k = sh.length then q else if sh.length < k ∧ k < sh.length + 1 + N then r (k - (sh.length + 1)) else ad k) (sh.length + 1 + i) = r i := fun i hi => by
      show (if sh.length + 1 + i = sh.length then q else if sh.length < sh.length + 1 + i ∧ sh.length + 1 + i < sh.length + 1 + N then r (sh.length + 1 + i - (sh.length + 1)) else ad (sh.length + 1 + i)) = r i
      rw [if_neg (by omega), if_pos (by omega), show sh.length + 1 + i - (sh.length + 1) = i by omega]
    generalize (fun k => if k = sh.length then q else if sh.length < k ∧ k < sh.length + 1 + N then r (k - (sh.length + 1)) else ad k) = ad' at had adn adi
    have he : zm_ws g ad' (sh ++ (.inr (.array .int, N) :: List.replicate N (.inr (.int, K))), gi, gl, va_up gr sh.length (fun i => if i < N then some (sh.length + 1 + i) else none)) = (zm_ws g ad (sh, gi, gl, gr) ++ [(q, .inl (g.2.2.1 (.array .int), N, .inr (.inr (.inr (.inr (fun i => if i < N then some (r i) else none))))))]) ++ va_pl ([] ++ (List.range N).map r) (vr_up (fun _ => .inl (g.2.2.1 .int, (0, .inl (fun _ => 0)))) ((List.range N).map r) (.inl (g.2.2.1 .int, (K, .inl (fun _ => 0))))) := by
      rw [zm_ws_app (fun k hk => had k (Or.inl hk)) hO (fun k hk => ⟨rfl, rfl, zm_une (by omega)⟩), List.append_assoc]
      congr 1
      rw [List.mapIdx_cons, List.nil_append, List.singleton_append]
      congr 1
      · show (ad' (sh.length + 0), (Sum.inl (g.2.2.1 (.array .int), N, .inr (.inr (.inr (.inr (fun j => (va_up gr sh.length (fun i => if i < N then some (sh.length + 1 + i) else none) (sh.length + 0) j).map ad'))))) : va_E)) = _
        rw [Nat.add_zero, adn, va_up_self]
        have : (fun j => (if j < N then some (sh.length + 1 + j) else none).map ad') = (fun i => if i < N then some (r i) else none) := funext fun j => by
          by_cases hj : j < N
          · rw [if_pos hj, if_pos hj]; show some (ad' _) = _; rw [adi j hj]
          · rw [if_neg hj, if_neg hj]; rfl
        rw [this]
      · unfold va_pl
        apply List.ext_getElem?
        intro i
        rw [List.getElem?_mapIdx, List.getElem?_replicate, List.getElem?_map, List.getElem?_map]
        by_cases hi : i < N
        · rw [if_pos hi, List.getElem?_range hi]
          show some (ad' (sh.length + (i + 1)), (Sum.inl (g.2.2.1 .int, (K, .inl (gi (sh.length + (i + 1))))) : va_E)) = some (r i, vr_up _ _ _ (r i))
          rw [show sh.length + (i + 1) = sh.length + 1 + i by omega, adi i hi, hg0 (sh.length + 1 + i) (by omega), vr_up_in (List.mem_map.mpr ⟨i, List.mem_range.mpr hi, rfl⟩)]
        · rw [if_neg hi, List.getElem?_eq_none (by rw [List.length_range]; omega)]
          rfl
    rw [← he] at hP hD
    have hlen : (.inr (.array .int, N) :: List.replicate N (.inr (.int, K)) : List zm_K).length = 1 + N := by rw [List.length_cons, List.length_replicate, Nat.add_comm]
    have hk := zm_more (v := .ref sh.length) F hl h1 h2 h3 hS h5 (cs := .inr (.array .int, N) :: List.replicate N (.inr (.int, K))) (by rw [hlen]; exact had) (by rw [hlen]; exact hB) hrk hP hD k
    have e : zm_c ad' (.ref sh.length) = .ref q := by show Value.ref (ad' sh.length) = _; rw [adn]
    rw [e] at hk
    exact hk
/-- a final field is put in its constructor -/
theorem zA_putVF {idx ci j q : Nat} {gi' : zm_I} {gr' : zm_R} {v : Value} (hname : x.meth.name = "<init>") (hq : sh[q]? = some (.inl ci)) (hf : zm_gf y.2.1 idx ci j) (hd : decode y.1 pc = .ok (.putfield idx, 3)) (hfin : ∀ C T N, vwCl[ci]? = some (C, T, N) → (T j).2.2.2 = true ∧ C = y.2.1)
    (hnest : ∀ C T N, vwCl[ci]? = some (C, T, N) → Cond.fieldLink y.2.1 idx C (T j).2.1 (T j).2.2.1 ∈ zm_T) (hnar : ∀ ad, narrow (zm_tyOf ci j) (zm_c ad v) = zm_c ad v) (hfit : ∀ ad, fits (zm_tyOf ci j) (zm_c ad v) = true)
    (hset : ∀ ad, (zm_fs ad (sh, gi, gl, gr) q ci).set j (zm_c ad v) = zm_fs ad (sh, gi', gl, gr') q ci) (hr : ∀ a, a ≠ q → gi' a = gi a ∧ gr' a = gr a)
    (k : zA x g y d mc ms Q ce sl (pc + 3) L st (sh, gi', gl, gr')) : zA x g y d mc ms Q ce sl pc L (v :: .ref q :: st) (sh, gi, gl, gr) := by
  intro F hn ad H locs ls h1 h2 h3 h4 h5
  obtain ⟨C, T, N, hc, hj, hT, hin, _⟩ := hf
  have hat := zm_ws_at (g := g) (ad := ad) (M := (sh, gi, gl, gr)) hq
  have hlen : j < (zm_fs ad (sh, gi, gl, gr) q ci).length := by unfold zm_fs; rw [List.length_map, List.length_range, zm_nf_eq hc]; exact hj
  have key : ∀ (H1 : Heap) (locs1 : List Loc), va_P g.2.1 vwCl ((zm_ws g ad (sh, gi, gl, gr)).set q (ad q, .inr (ci, (zm_fs ad (sh, gi, gl, gr) q ci).set j (zm_c ad v)))) H1 → va_D (zm_A g) ((zm_ws g ad (sh, gi, gl, gr)).set q (ad q, .inr (ci, (zm_fs ad (sh, gi, gl, gr) q ci).set j (zm_c ad v)))) → va_S (zm_A g) x.s.heap H1 locs1 →
      W x.p x.l x.e x.R x.s x.m x.args x.below x.meth x.c H1 locs1 ce sl Q (F0 x.m (pc + 3) ls (st.map (zm_c ad))) := by
    intro H1 locs1 hP hD hS
    rw [hset ad] at hP hD
    exact k F hn ad H1 locs1 ls h1 h2 (zm_W_set (M' := (sh, gi', gl, gr')) (c := .inl ci) h3 hq rfl (fun a ha => ⟨(hr a ha).1, rfl, (hr a ha).2⟩) hP hD hS F.2.2.2.2.2.2.2.2.2.2.1 F.2.2.2.2.2.2.2.2.2.2.2.1) hS h5
  exact va_putF (ref := C) (own := y.2.1) F.1 F.2.1 F.2.2.2.2.1 hin (zm_tyOf ci) (zm_tyOf_ok ci hc) (zm_nm_ok ci hc) F.2.2.2.1 F.2.2.2.2.2.2.2.2.2.1.1 h3.2.2.1 h3.2.2.2.1 h4 q hat hc j hj (F.2.2.2.2.1 _ (hnest C T N hc)) (fun z hz => by rw [hT] at hz; exact hz) (hfin _ _ _ hc).1 hname (hT.trans (hfin _ _ _ hc).2) (zm_tyOf_ok ci hc j hj) (hnar ad) (hfit ad) hlen hd key
def zm_fin (ci j : Nat) (own : String) : Bool := match vwCl[ci]? with
  | some q => (q.2.1 j).2.2.2 && decide (q.1 = own)
  | none => false
theorem zm_fin_of {ci j : Nat} {own : String} (h : zm_fin ci j own = true) : ∀ C T N, vwCl[ci]? = some (C, T, N) → (T j).2.2.2 = true ∧ C = own := by
  intro C T N hc
  unfold zm_fin at h
  rw [hc] at h
  simpa using h
theorem zA_putRF {idx ci j q r : Nat} (hname : x.meth.name = "<init>") (hq : sh[q]? = some (.inl ci)) (hf : zm_gf y.2.1 idx ci j) (hd : decode y.1 pc = .ok (.putfield idx, 3)) (hfin : zm_fin ci j y.2.1 = true) (hty : zm_isR (zm_tyOf ci j) = true) (hnest : ∀ C T N, vwCl[ci]? = some (C, T, N) → Cond.fieldLink y.2.1 idx C (T j).2.1 (T j).2.2.1 ∈ zm_T) (hO : zOkR sh.length gr) (hqs : q < sh.length) (hr : r < sh.length)
    (k : zOkR sh.length (va_up gr q (va_up (gr q) j (some r))) → zA x g y d mc ms Q ce sl (pc + 3) L st (sh, gi, gl, va_up gr q (va_up (gr q) j (some r)))) : zA x g y d mc ms Q ce sl pc L (.ref r :: .ref q :: st) (sh, gi, gl, gr) :=
  zA_putVF (gi' := gi) (gr' := va_up gr q (va_up (gr q) j (some r))) hname hq hf hd (zm_fin_of hfin) hnest (fun ad => by cases h : zm_tyOf ci j <;> first | rfl | (rw [h] at hty; cases hty)) (fun ad => by cases h : zm_tyOf ci j <;> first | rfl | (rw [h] at hty; cases hty))
    (fun ad => zm_fs_set (by rw [zm_val_R hty]; show va_rf ((va_up gr q (va_up (gr q) j (some r)) q j).map ad) = _; rw [va_up_self, va_up_self]; rfl) (fun i hi => zm_val_up rfl rfl (by show va_up gr q (va_up (gr q) j (some r)) q i = gr q i; rw [va_up_self]; exact zm_une hi)))
    (fun a ha => ⟨rfl, zm_une ha⟩) (k (zOkR_put hO hqs hr))
theorem zA_putRO {idx ci j q r : Nat} (hq : sh[q]? = some (.inl ci)) (hf : zm_gf y.2.1 idx ci j) (hd : decode y.1 pc = .ok (.putfield idx, 3)) (hfin : zm_nfin ci j = true) (hty : zm_isR (zm_tyOf ci j) = true) (hO : zOkR sh.length gr) (hqs : q < sh.length) (hr : r < sh.length)
    (k : zOkR sh.length (va_up gr q (va_up (gr q) j (some r))) → zA x g y d mc ms Q ce sl (pc + 3) L st (sh, gi, gl, va_up gr q (va_up (gr q) j (some r)))) : zA x g y d mc ms Q ce sl pc L (.ref r :: .ref q :: st) (sh, gi, gl, gr) :=
  zA_putR hq hf hd hfin hty (k (zOkR_put hO hqs hr))
/-- Object's own constructor -/
theorem zA_objI {idx q : Nat} (hlk : Cond.methodLink y.2.1 idx Lib.objectInit ∈ zm_T) (hin : Cond.instanceMethod Lib.objectInit ∈ zm_T) (hco : Cond.code Lib.objectInit ⟨#[0xb1]⟩ 1 none ∈ zm_T) (hd : decode y.1 pc = .ok (.invokespecial idx, 3)) (hd1 : 1 ≤ d) (hcat : (st.map fun v => v.category).sum ≤ 8) {M : zm_M} (k : zA x g y d mc ms Q ce sl (pc + 3) L st M) : zA x g y d mc ms Q ce sl pc L (.ref q :: st) M := by
  intro F hn ad H locs ls h1 h2 h3 h4 h5
  exact W.objInit F.1 F.2.1 F.2.2.2.1 (F.2.2.2.2.1 _ hlk) (F.2.2.2.2.1 _ hin) (F.2.2.2.2.1 _ hco) rfl ((h5.1.trans hn).trans F.2.2.1.symm) rfl hd (Nat.le_trans hd1 F.2.2.2.2.2.1) (by
    have := F.2.2.2.2.2.2.1
    have hr : 2 * (F0 x.m pc ls ((Value.ref q :: st).map (zm_c ad))).monitorRoom + ((st.map (zm_c ad)).map fun v => v.category).sum ≤ 8 := lv_room (by rw [zm_c_cats]; exact hcat)
    omega) (k F hn ad H locs ls h1 h2 h3 h4 h5)
end ZMK
