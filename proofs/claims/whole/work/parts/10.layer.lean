/-! ===== MY LAYER: one memory for the whole system; abstract addresses; the judgement zA ===== -/
abbrev zm_K : Type := Nat ⊕ (FieldType × Nat)
abbrev zm_M : Type := List zm_K × (Nat → Nat → Int32) × (Nat → Nat → Int64) × (Nat → Nat → Option Nat)
/-- the heap at the law's start, class numbers and slots, array classes, addresses of constants -/
abbrev zm_G : Type := Heap × va_G × (FieldType → ClassId) × (Nat → Nat)
/-- code, own class, locals, return type -/
abbrev zm_Y : Type := ByteArray × String × Nat × Option FieldType
def zm_isN : Cond → Bool
  | .fieldLinkNest _ _ _ _ _ _ => true
  | .methodLinkNest _ _ _ _ => true
  | _ => false
def zm_T : List Cond := lw_tbl.filter goodWord
def zm_N : List Cond := lw_tbl.filter zm_isN
theorem zm_inT {w : Cond} (i : Nat) (h : lw_tbl[i]? = some w) (hg : goodWord w = true) : w ∈ zm_T := List.mem_filter.mpr ⟨List.mem_of_getElem? h, hg⟩
theorem zm_inN {w : Cond} (i : Nat) (h : lw_tbl[i]? = some w) (hg : zm_isN w = true) : w ∈ zm_N := List.mem_filter.mpr ⟨List.mem_of_getElem? h, hg⟩
theorem zm_T_good {w : Cond} (h : w ∈ zm_T) : goodWord w = true := (List.mem_filter.mp h).2
def zm_tyOf (ci j : Nat) : FieldType := match ci with
  | 0 => tyX0 j | 1 => tyX1 j | 2 => tyX3 j | 3 => tyX4 j | 4 => tyX5 j | 5 => tyX6 j | 6 => tyX7 j | 7 => tyX8 j | 8 => tyX9 j | 9 => tyX10 j | _ => tyX11 j
def zm_nf (ci : Nat) : Nat := match vwCl[ci]? with
  | some q => q.2.2
  | none => 0
def zm_val (ad : Nat → Nat) (M : zm_M) (k j : Nat) (ty : FieldType) : Value := match ty with
  | .long => .long (M.2.2.1 k j)
  | .object _ => va_rf ((M.2.2.2 k j).map ad)
  | .array _ => va_rf ((M.2.2.2 k j).map ad)
  | _ => .int (M.2.1 k j)
def zm_fs (ad : Nat → Nat) (M : zm_M) (k ci : Nat) : List Value := (List.range (zm_nf ci)).map (fun j => zm_val ad M k j (zm_tyOf ci j))
def zm_ar (ad : Nat → Nat) (M : zm_M) (k : Nat) (ty : FieldType) (n : Nat) : vp_A := match ty with
  | .long => (n, .inr (.inl (M.2.2.1 k)))
  | .object _ => (n, .inr (.inr (.inr (.inr (fun j => (M.2.2.2 k j).map ad)))))
  | .array _ => (n, .inr (.inr (.inr (.inr (fun j => (M.2.2.2 k j).map ad)))))
  | _ => (n, .inl (M.2.1 k))
def zm_ce (g : zm_G) (ad : Nat → Nat) (M : zm_M) (k : Nat) (c : zm_K) : va_E := match c with
  | .inl ci => .inr (ci, zm_fs ad M k ci)
  | .inr (ty, n) => .inl (g.2.2.1 ty, zm_ar ad M k ty n)
def zm_ws (g : zm_G) (ad : Nat → Nat) (M : zm_M) : va_W := M.1.mapIdx (fun k c => (ad k, zm_ce g ad M k c))
def zm_A (g : zm_G) : Nat → Prop := fun q => g.1.size ≤ q
def zm_tys (g : zm_G) : List (ClassId × FieldType) := [(g.2.2.1 .int, .int), (g.2.2.1 .byte, .byte), (g.2.2.1 .boolean, .boolean), (g.2.2.1 .long, .long), (g.2.2.1 (.array .int), .array .int)]
def zm_cB : Nat := 1000000
def zm_W (g : zm_G) (ad : Nat → Nat) (M : zm_M) (H : Heap) : Prop :=
  g.1.size ≤ H.size ∧ (∀ q : Nat, q < g.1.size → H[q]? = g.1[q]?) ∧ va_P g.2.1 vwCl (zm_ws g ad M) H ∧ va_D (zm_A g) (zm_ws g ad M) ∧ (∀ i, ad (zm_cB + i) = g.2.2.2 i) ∧ M.1.length ≤ zm_cB
/-! what stands in the heap before the law begins: a static array, String constants -/
def zm_len : List Nat := [41, 10, 65, 15, 12]
def zm_byt : List (List Int32) := [[110, 105, 103, 104, 116, 32, 102, 117, 101, 108, 32, 97, 108, 108, 111, 119, 32, 112, 114, 105, 99, 101, 32, 114, 101, 110, 116, 101, 114, 32, 112, 97, 114, 105, 115, 104, 32, 101, 103, 103, 115], [111, 114, 32, 97, 110, 100, 32, 110, 111, 116], [112, 101, 111, 112, 108, 101, 32, 115, 101, 97, 116, 115, 32, 115, 116, 114, 105, 99, 116, 32, 99, 104, 105, 108, 100, 32, 108, 105, 107, 101, 32, 103, 101, 110, 114, 101, 32, 97, 103, 101, 32, 109, 105, 110, 117, 116, 101, 115, 32, 110, 105, 103, 104, 116, 32, 119, 111, 114, 110, 32, 104, 101, 97, 100, 115], [110, 111, 32, 115, 117, 99, 104, 32, 118, 105, 108, 108, 97, 103, 101], [110, 111, 32, 115, 117, 99, 104, 32, 119, 104, 97, 116]]
def zm_wl : List Int32 := [1, 10, 40, 10, 0]
def zm_own : Nat → String
  | 0 => "VanShows$Tokens"
  | 1 => "VanShows$Tokens"
  | 2 => "VanShows$Tokens"
  | 3 => "VanShows"
  | _ => "VanShows"
def zm_idx : Nat → Nat
  | 0 => 60
  | 1 => 66
  | 2 => 68
  | 3 => 276
  | _ => 283
def zm_txt : Nat → String
  | 0 => "night fuel allow price renter parish eggs"
  | 1 => "or and not"
  | 2 => "people seats strict child like genre age minutes night worn heads"
  | 3 => "no such village"
  | _ => "no such what"
def zm_St (g : zm_G) (U : State) : Prop :=
  va_Z "VanShows$Law" "WITHOUT_LINE" "[I" (.ref (g.2.2.2 0)) (zm_A g) U g.1 ∧ va_T .int (g.2.2.2 0) 5 (fun j => .int (zm_wl.getD j 0)) (zm_A g) U g.1 ∧ va_Z "java/lang/String" "COMPACT_STRINGS" "Z" (.int 1) (zm_A g) U g.1 ∧
  (va_Z "jdk/internal/util/Preconditions" "SIOOBE_FORMATTER" "Ljava/util/function/BiFunction;" .null (zm_A g) U g.1 ∨ va_Z "jdk/internal/util/Preconditions" "SIOOBE_FORMATTER" "Ljava/util/function/BiFunction;" (.ref (g.2.2.2 11)) (zm_A g) U g.1) ∧
  vk_S 5 zm_len zm_byt (fun i => g.2.2.2 (1 + i)) (fun i => g.2.2.2 (6 + i)) (zm_A g) U g.1 ∧ ∀ i, i < 5 → vk_R (zm_own i) (zm_idx i) (zm_txt i) (g.2.2.2 (1 + i)) U
theorem zm_St.alike {g : zm_G} {s U : State} (hv : s.vm.Alike U.vm) (hR : ∀ i, i < 5 → vk_R (zm_own i) (zm_idx i) (zm_txt i) (g.2.2.2 (1 + i)) U) (h : zm_St g s) : zm_St g U :=
  ⟨h.1.moved hv, h.2.1.moved hv, h.2.2.1.moved hv, h.2.2.2.1.imp (fun q => q.moved hv) (fun q => q.moved hv), h.2.2.2.2.1.moved hv, hR⟩
def zm_Gl (g : zm_G) (U : State) : Prop := va_K g.2.1 vwCl (zm_tys g) U ∧ (∀ w ∈ zm_N, va_Nw w U) ∧ zm_St g U
def zm_c (ad : Nat → Nat) : Value → Value
  | .ref k => .ref (ad k)
  | v => v
theorem zm_c_cat (ad : Nat → Nat) (v : Value) : (zm_c ad v).category = v.category := by cases v <;> rfl
theorem zm_c_cats (ad : Nat → Nat) (st : List Value) : ((st.map (zm_c ad)).map fun v => v.category) = st.map fun v => v.category := by
  rw [List.map_map]
  exact List.map_congr_left (fun v _ => zm_c_cat ad v)
def zm_L (ad : Nat → Nat) (L : List (Option Value)) (ls : Array Slot) : Prop := ls.size = L.length ∧ lv_wf ls ∧ ∀ (i : Nat) (v : Value), L[i]? = some (some v) → ls[i]? = some (.val (zm_c ad v))
abbrev zm_X : Type := Program × Launch × Env × Room × State × MethodId × Array Value × List Frame × Method × Code × (Nat → Nat) × Nat
abbrev zm_X.p (x : zm_X) : Program := x.1
abbrev zm_X.l (x : zm_X) : Launch := x.2.1
abbrev zm_X.e (x : zm_X) : Env := x.2.2.1
abbrev zm_X.R (x : zm_X) : Room := x.2.2.2.1
abbrev zm_X.s (x : zm_X) : State := x.2.2.2.2.1
abbrev zm_X.m (x : zm_X) : MethodId := x.2.2.2.2.2.1
abbrev zm_X.args (x : zm_X) : Array Value := x.2.2.2.2.2.2.1
abbrev zm_X.below (x : zm_X) : List Frame := x.2.2.2.2.2.2.2.1
abbrev zm_X.meth (x : zm_X) : Method := x.2.2.2.2.2.2.2.2.1
abbrev zm_X.c (x : zm_X) : Code := x.2.2.2.2.2.2.2.2.2.1
abbrev zm_X.ad (x : zm_X) : Nat → Nat := x.2.2.2.2.2.2.2.2.2.2.1
abbrev zm_X.n (x : zm_X) : Nat := x.2.2.2.2.2.2.2.2.2.2.2
def zm_fix (x : zm_X) (g : zm_G) (y : zm_Y) (d mc ms : Nat) : Prop :=
  x.p.tables.exec = Jvm.exec ∧ x.c.code = y.1 ∧ x.c.maxLocals = y.2.2.1 ∧ x.s.vm.findClass y.2.1 = some x.m.cls ∧ (∀ w ∈ zm_T, w.before x.args x.s = true) ∧ d ≤ x.R.frames ∧ 41 * d ≤ x.R.locals ∧ x.R.cells = mc ∧ x.R.slots = ms ∧
  zm_Gl g x.s ∧ g.1.size ≤ x.s.heap.size ∧ (∀ q : Nat, q < g.1.size → x.s.heap[q]? = g.1[q]?) ∧ x.meth.locks = false ∧ x.meth.sig.returnType = y.2.2.2
/-- from pc, with these locals, stack and memory, the machine comes to Q -/
def zA (x : zm_X) (g : zm_G) (y : zm_Y) (d mc ms : Nat) (Q : State → Prop) (ce sl pc : Nat) (L : List (Option Value)) (st : List Value) (M : zm_M) : Prop :=
  zm_fix x g y d mc ms → L.length = y.2.2.1 → ∀ (ad : Nat → Nat) (H : Heap) (locs : List Loc) (ls : Array Slot), (∀ k, (k < x.n ∨ M.1.length ≤ k) → ad k = x.ad k) → x.n ≤ M.1.length → zm_W g ad M H → va_S (zm_A g) x.s.heap H locs → zm_L ad L ls →
    W x.p x.l x.e x.R x.s x.m x.args x.below x.meth x.c H locs ce sl Q (F0 x.m pc ls (st.map (zm_c ad)))

def zm_c1 (o : Option Value) : Bool := match o with
  | none => true
  | some v => v.category == 1
theorem zm_c1_of {u : Value} (h : zm_c1 (some u) = true) : u.category = 1 := by simpa [zm_c1] using h
def zm_as (ad : Nat → Nat) (L : List (Option Value)) : List (Nat × Value) := (List.range L.length).filterMap (fun i => (L.getD i none).map (fun v => (i, zm_c ad v)))
theorem zm_as_mem {ad : Nat → Nat} {L : List (Option Value)} {q : Nat × Value} : q ∈ zm_as ad L ↔ ∃ v, L[q.1]? = some (some v) ∧ q.2 = zm_c ad v := by
  unfold zm_as
  rw [List.mem_filterMap]
  constructor
  · rintro ⟨i, hi, h⟩
    rw [List.mem_range] at hi
    cases hv : L.getD i none with
    | none => rw [hv] at h; cases h
    | some v =>
      rw [hv] at h
      cases h
      refine ⟨v, ?_, rfl⟩
      rw [List.getD_eq_getElem?_getD] at hv
      show L[i]? = _
      cases hl : L[i]? with
      | none => rw [hl] at hv; cases hv
      | some w => rw [hl] at hv; simp at hv; rw [hv]
  · rintro ⟨v, hv, he⟩
    have hlt : q.1 < L.length := (List.getElem?_eq_some_iff.mp hv).1
    refine ⟨q.1, List.mem_range.mpr hlt, ?_⟩
    rw [List.getD_eq_getElem?_getD, hv]
    show some (q.1, zm_c ad v) = some q
    rw [← he]
theorem zm_as_has {ad : Nat → Nat} {L : List (Option Value)} {ls : Array Slot} (h : zm_L ad L ls) : lv_has ls L.length (zm_as ad L) := by
  refine ⟨h.1, h.2.1, fun q hq => ?_⟩
  obtain ⟨v, h1, h2⟩ := zm_as_mem.mp hq
  rw [h2]
  exact h.2.2 _ _ h1
theorem zm_as_at {L : List (Option Value)} (ad : Nat → Nat) (i : Nat) {v : Value} (h : L[i]? = some (some v)) : ∃ k : Nat, (zm_as ad L)[k]? = some (i, zm_c ad v) := by
  have hm : (i, zm_c ad v) ∈ zm_as ad L := zm_as_mem.mpr ⟨v, h, rfl⟩
  exact List.getElem?_of_mem hm
theorem zm_ltl {i : Nat} {L : List (Option Value)} (h : i < L.length) : i < L.length := h
theorem zm_L_of1 {ad : Nat → Nat} {L : List (Option Value)} {ls : Array Slot} {i n : Nat} {v : Value} (h : lv_has ls n ((i, zm_c ad v) :: (zm_as ad L).filter (fun q => !(q.1 == i) && !(q.1 + 1 == i && q.2.category == 2))))
    (hp : ∀ (j : Nat) (u : Value), j + 1 = i → L[j]? = some (some u) → u.category = 1) (hn : n = L.length := by rfl) : zm_L ad (L.set i (some v)) ls := by
  subst hn
  refine ⟨by rw [List.length_set]; exact h.1, h.2.1, fun j u hj => ?_⟩
  by_cases e : i = j
  · subst e
    have hlt : i < L.length := by
      have := (List.getElem?_eq_some_iff.mp hj).1
      rwa [List.length_set] at this
    rw [List.getElem?_set_self hlt] at hj
    cases hj
    exact h.2.2 _ List.mem_cons_self
  · rw [List.getElem?_set_ne e] at hj
    refine h.2.2 (j, zm_c ad u) (List.mem_cons_of_mem _ (List.mem_filter.mpr ⟨zm_as_mem.mpr ⟨u, hj, rfl⟩, ?_⟩))
    have e' : ¬ j = i := fun q => e q.symm
    simp only [Bool.and_eq_true, Bool.not_eq_true', beq_eq_false_iff_ne, ne_eq, Bool.and_eq_false_iff]
    refine ⟨e', ?_⟩
    by_cases e2 : j + 1 = i
    · right
      rw [zm_c_cat, hp j u e2 hj]
      decide
    · exact Or.inl e2
theorem zm_L_of2 {ad : Nat → Nat} {L : List (Option Value)} {ls : Array Slot} {i n : Nat} {v : Value} (h : lv_has ls n ((i, zm_c ad v) :: (zm_as ad L).filter (fun q => !(q.1 == i) && (!(q.1 == i + 1) && !(q.1 + 1 == i && q.2.category == 2)))))
    (hp : ∀ (j : Nat) (u : Value), j + 1 = i → L[j]? = some (some u) → u.category = 1) (hn : n = L.length := by rfl) : zm_L ad ((L.set i (some v)).set (i + 1) none) ls := by
  subst hn
  refine ⟨by rw [List.length_set, List.length_set]; exact h.1, h.2.1, fun j u hj => ?_⟩
  by_cases e1 : i + 1 = j
  · subst e1
    rw [List.getElem?_set] at hj
    simp at hj
  · rw [List.getElem?_set_ne e1] at hj
    by_cases e : i = j
    · subst e
      have hlt : i < L.length := by
        have := (List.getElem?_eq_some_iff.mp hj).1
        rwa [List.length_set] at this
      rw [List.getElem?_set_self hlt] at hj
      cases hj
      exact h.2.2 _ List.mem_cons_self
    · rw [List.getElem?_set_ne e] at hj
      refine h.2.2 (j, zm_c ad u) (List.mem_cons_of_mem _ (List.mem_filter.mpr ⟨zm_as_mem.mpr ⟨u, hj, rfl⟩, ?_⟩))
      have e' : ¬ j = i := fun q => e q.symm
      have e1' : ¬ j = i + 1 := fun q => e1 q.symm
      simp only [Bool.and_eq_true, Bool.not_eq_true', beq_eq_false_iff_ne, ne_eq, Bool.and_eq_false_iff]
      refine ⟨e', e1', ?_⟩
      by_cases e2 : j + 1 = i
      · right
        rw [zm_c_cat, hp j u e2 hj]
        decide
      · exact Or.inl e2

section ZB
variable {x : zm_X} {g : zm_G} {y : zm_Y} {d mc ms : Nat} {Q : State → Prop} {ce sl pc : Nat} {L : List (Option Value)} {st : List Value} {M : zm_M}
theorem zA_iconst {n : Int} (v : Int32) (hd : decode y.1 pc = .ok (.iconst n, 1)) (hv : Int32.ofInt n = v) (k : zA x g y d mc ms Q ce sl (pc + 1) L (.int v :: st) M) : zA x g y d mc ms Q ce sl pc L (st) M :=
  fun F hn ad H locs ls h1 h2 h3 h4 h5 => lv_iconst F.1 F.2.1 hd hv (k F hn ad H locs ls h1 h2 h3 h4 h5)
theorem zA_bipush {n : Int} (v : Int32) (hd : decode y.1 pc = .ok (.bipush n, 2)) (hv : (Int8.ofInt n).toInt32 = v) (k : zA x g y d mc ms Q ce sl (pc + 2) L (.int v :: st) M) : zA x g y d mc ms Q ce sl pc L (st) M :=
  fun F hn ad H locs ls h1 h2 h3 h4 h5 => lv_bipush F.1 F.2.1 hd hv (k F hn ad H locs ls h1 h2 h3 h4 h5)
theorem zA_sipush {n : Int} (v : Int32) (hd : decode y.1 pc = .ok (.sipush n, 3)) (hv : (Int16.ofInt n).toInt32 = v) (k : zA x g y d mc ms Q ce sl (pc + 3) L (.int v :: st) M) : zA x g y d mc ms Q ce sl pc L (st) M :=
  fun F hn ad H locs ls h1 h2 h3 h4 h5 => lv_sipush F.1 F.2.1 hd hv (k F hn ad H locs ls h1 h2 h3 h4 h5)
theorem zA_lconst {n : Fin 2} (v : Int64) (hd : decode y.1 pc = .ok (.lconst n, 1)) (hv : Int64.ofNat (n : Nat) = v) (k : zA x g y d mc ms Q ce sl (pc + 1) L (.long v :: st) M) : zA x g y d mc ms Q ce sl pc L (st) M :=
  fun F hn ad H locs ls h1 h2 h3 h4 h5 => lv_lconst F.1 F.2.1 hd hv (k F hn ad H locs ls h1 h2 h3 h4 h5)
theorem zA_iadd {a b : Int32} (hd : decode y.1 pc = .ok (.iadd, 1))  (k : zA x g y d mc ms Q ce sl (pc + 1) L (.int (a + b) :: st) M) : zA x g y d mc ms Q ce sl pc L (.int b :: .int a :: st) M :=
  fun F hn ad H locs ls h1 h2 h3 h4 h5 => lv_iadd F.1 F.2.1 hd  (k F hn ad H locs ls h1 h2 h3 h4 h5)
theorem zA_isub {a b : Int32} (hd : decode y.1 pc = .ok (.isub, 1))  (k : zA x g y d mc ms Q ce sl (pc + 1) L (.int (a - b) :: st) M) : zA x g y d mc ms Q ce sl pc L (.int b :: .int a :: st) M :=
  fun F hn ad H locs ls h1 h2 h3 h4 h5 => lv_isub F.1 F.2.1 hd  (k F hn ad H locs ls h1 h2 h3 h4 h5)
theorem zA_imul {a b : Int32} (hd : decode y.1 pc = .ok (.imul, 1))  (k : zA x g y d mc ms Q ce sl (pc + 1) L (.int (a * b) :: st) M) : zA x g y d mc ms Q ce sl pc L (.int b :: .int a :: st) M :=
  fun F hn ad H locs ls h1 h2 h3 h4 h5 => lv_imul F.1 F.2.1 hd  (k F hn ad H locs ls h1 h2 h3 h4 h5)
theorem zA_iand {a b : Int32} (hd : decode y.1 pc = .ok (.iand, 1))  (k : zA x g y d mc ms Q ce sl (pc + 1) L (.int (a &&& b) :: st) M) : zA x g y d mc ms Q ce sl pc L (.int b :: .int a :: st) M :=
  fun F hn ad H locs ls h1 h2 h3 h4 h5 => lv_iand F.1 F.2.1 hd  (k F hn ad H locs ls h1 h2 h3 h4 h5)
theorem zA_ior {a b : Int32} (hd : decode y.1 pc = .ok (.ior, 1))  (k : zA x g y d mc ms Q ce sl (pc + 1) L (.int (a ||| b) :: st) M) : zA x g y d mc ms Q ce sl pc L (.int b :: .int a :: st) M :=
  fun F hn ad H locs ls h1 h2 h3 h4 h5 => lv_ior F.1 F.2.1 hd  (k F hn ad H locs ls h1 h2 h3 h4 h5)
theorem zA_ixor {a b : Int32} (hd : decode y.1 pc = .ok (.ixor, 1))  (k : zA x g y d mc ms Q ce sl (pc + 1) L (.int (a ^^^ b) :: st) M) : zA x g y d mc ms Q ce sl pc L (.int b :: .int a :: st) M :=
  fun F hn ad H locs ls h1 h2 h3 h4 h5 => lv_ixor F.1 F.2.1 hd  (k F hn ad H locs ls h1 h2 h3 h4 h5)
theorem zA_ishl {a b : Int32} (hd : decode y.1 pc = .ok (.ishl, 1))  (k : zA x g y d mc ms Q ce sl (pc + 1) L (.int (a <<< (b &&& 31)) :: st) M) : zA x g y d mc ms Q ce sl pc L (.int b :: .int a :: st) M :=
  fun F hn ad H locs ls h1 h2 h3 h4 h5 => lv_ishl F.1 F.2.1 hd  (k F hn ad H locs ls h1 h2 h3 h4 h5)
theorem zA_ishr {a b : Int32} (hd : decode y.1 pc = .ok (.ishr, 1))  (k : zA x g y d mc ms Q ce sl (pc + 1) L (.int (a >>> (b &&& 31)) :: st) M) : zA x g y d mc ms Q ce sl pc L (.int b :: .int a :: st) M :=
  fun F hn ad H locs ls h1 h2 h3 h4 h5 => lv_ishr F.1 F.2.1 hd  (k F hn ad H locs ls h1 h2 h3 h4 h5)
theorem zA_idiv {a b : Int32} (hd : decode y.1 pc = .ok (.idiv, 1)) (hne : ¬ b = 0) (k : zA x g y d mc ms Q ce sl (pc + 1) L (.int (a / b) :: st) M) : zA x g y d mc ms Q ce sl pc L (.int b :: .int a :: st) M :=
  fun F hn ad H locs ls h1 h2 h3 h4 h5 => lv_idiv F.1 F.2.1 hd hne (k F hn ad H locs ls h1 h2 h3 h4 h5)
theorem zA_irem {a b : Int32} (hd : decode y.1 pc = .ok (.irem, 1)) (hne : ¬ b = 0) (k : zA x g y d mc ms Q ce sl (pc + 1) L (.int (a - a / b * b) :: st) M) : zA x g y d mc ms Q ce sl pc L (.int b :: .int a :: st) M :=
  fun F hn ad H locs ls h1 h2 h3 h4 h5 => lv_irem F.1 F.2.1 hd hne (k F hn ad H locs ls h1 h2 h3 h4 h5)
theorem zA_ladd {a b : Int64} (hd : decode y.1 pc = .ok (.ladd, 1))  (k : zA x g y d mc ms Q ce sl (pc + 1) L (.long (a + b) :: st) M) : zA x g y d mc ms Q ce sl pc L (.long b :: .long a :: st) M :=
  fun F hn ad H locs ls h1 h2 h3 h4 h5 => lv_ladd F.1 F.2.1 hd  (k F hn ad H locs ls h1 h2 h3 h4 h5)
theorem zA_lsub {a b : Int64} (hd : decode y.1 pc = .ok (.lsub, 1))  (k : zA x g y d mc ms Q ce sl (pc + 1) L (.long (a - b) :: st) M) : zA x g y d mc ms Q ce sl pc L (.long b :: .long a :: st) M :=
  fun F hn ad H locs ls h1 h2 h3 h4 h5 => lv_lsub F.1 F.2.1 hd  (k F hn ad H locs ls h1 h2 h3 h4 h5)
theorem zA_lmul {a b : Int64} (hd : decode y.1 pc = .ok (.lmul, 1))  (k : zA x g y d mc ms Q ce sl (pc + 1) L (.long (a * b) :: st) M) : zA x g y d mc ms Q ce sl pc L (.long b :: .long a :: st) M :=
  fun F hn ad H locs ls h1 h2 h3 h4 h5 => lv_lmul F.1 F.2.1 hd  (k F hn ad H locs ls h1 h2 h3 h4 h5)
theorem zA_land {a b : Int64} (hd : decode y.1 pc = .ok (.land, 1))  (k : zA x g y d mc ms Q ce sl (pc + 1) L (.long (a &&& b) :: st) M) : zA x g y d mc ms Q ce sl pc L (.long b :: .long a :: st) M :=
  fun F hn ad H locs ls h1 h2 h3 h4 h5 => lv_land F.1 F.2.1 hd  (k F hn ad H locs ls h1 h2 h3 h4 h5)
theorem zA_lor {a b : Int64} (hd : decode y.1 pc = .ok (.lor, 1))  (k : zA x g y d mc ms Q ce sl (pc + 1) L (.long (a ||| b) :: st) M) : zA x g y d mc ms Q ce sl pc L (.long b :: .long a :: st) M :=
  fun F hn ad H locs ls h1 h2 h3 h4 h5 => lv_lor F.1 F.2.1 hd  (k F hn ad H locs ls h1 h2 h3 h4 h5)
theorem zA_ldiv {a b : Int64} (hd : decode y.1 pc = .ok (.ldiv, 1)) (hne : ¬ b = 0) (k : zA x g y d mc ms Q ce sl (pc + 1) L (.long (a / b) :: st) M) : zA x g y d mc ms Q ce sl pc L (.long b :: .long a :: st) M :=
  fun F hn ad H locs ls h1 h2 h3 h4 h5 => lv_ldiv F.1 F.2.1 hd hne (k F hn ad H locs ls h1 h2 h3 h4 h5)
theorem zA_lrem {a b : Int64} (hd : decode y.1 pc = .ok (.lrem, 1)) (hne : ¬ b = 0) (k : zA x g y d mc ms Q ce sl (pc + 1) L (.long (a - a / b * b) :: st) M) : zA x g y d mc ms Q ce sl pc L (.long b :: .long a :: st) M :=
  fun F hn ad H locs ls h1 h2 h3 h4 h5 => lv_lrem F.1 F.2.1 hd hne (k F hn ad H locs ls h1 h2 h3 h4 h5)
theorem zA_lneg {a : Int64} (hd : decode y.1 pc = .ok (.lneg, 1))  (k : zA x g y d mc ms Q ce sl (pc + 1) L (.long (-a) :: st) M) : zA x g y d mc ms Q ce sl pc L (.long a :: st) M :=
  fun F hn ad H locs ls h1 h2 h3 h4 h5 => lv_lneg F.1 F.2.1 hd  (k F hn ad H locs ls h1 h2 h3 h4 h5)
theorem zA_lshl {a : Int64} {b : Int32} (hd : decode y.1 pc = .ok (.lshl, 1))  (k : zA x g y d mc ms Q ce sl (pc + 1) L (.long (a <<< (b.toInt64 &&& 63)) :: st) M) : zA x g y d mc ms Q ce sl pc L (.int b :: .long a :: st) M :=
  fun F hn ad H locs ls h1 h2 h3 h4 h5 => lv_lshl F.1 F.2.1 hd rfl (k F hn ad H locs ls h1 h2 h3 h4 h5)
theorem zA_lshr {a : Int64} {b : Int32} (hd : decode y.1 pc = .ok (.lshr, 1))  (k : zA x g y d mc ms Q ce sl (pc + 1) L (.long (a >>> (b.toInt64 &&& 63)) :: st) M) : zA x g y d mc ms Q ce sl pc L (.int b :: .long a :: st) M :=
  fun F hn ad H locs ls h1 h2 h3 h4 h5 => lv_lshr F.1 F.2.1 hd rfl (k F hn ad H locs ls h1 h2 h3 h4 h5)
theorem zA_i2l {a : Int32} (hd : decode y.1 pc = .ok (.i2l, 1))  (k : zA x g y d mc ms Q ce sl (pc + 1) L (.long a.toInt64 :: st) M) : zA x g y d mc ms Q ce sl pc L (.int a :: st) M :=
  fun F hn ad H locs ls h1 h2 h3 h4 h5 => lv_i2l F.1 F.2.1 hd rfl (k F hn ad H locs ls h1 h2 h3 h4 h5)
theorem zA_l2i {a : Int64} (hd : decode y.1 pc = .ok (.l2i, 1))  (k : zA x g y d mc ms Q ce sl (pc + 1) L (.int a.toInt32 :: st) M) : zA x g y d mc ms Q ce sl pc L (.long a :: st) M :=
  fun F hn ad H locs ls h1 h2 h3 h4 h5 => lv_l2i F.1 F.2.1 hd rfl (k F hn ad H locs ls h1 h2 h3 h4 h5)
theorem zA_i2b {a : Int32} (hd : decode y.1 pc = .ok (.i2b, 1))  (k : zA x g y d mc ms Q ce sl (pc + 1) L (.int a.toInt8.toInt32 :: st) M) : zA x g y d mc ms Q ce sl pc L (.int a :: st) M :=
  fun F hn ad H locs ls h1 h2 h3 h4 h5 => lv_i2b F.1 F.2.1 hd rfl (k F hn ad H locs ls h1 h2 h3 h4 h5)
theorem zA_lcmp {a b : Int64} (hd : decode y.1 pc = .ok (.lcmp, 1))  (k : zA x g y d mc ms Q ce sl (pc + 1) L (.int (lg_cmp a b) :: st) M) : zA x g y d mc ms Q ce sl pc L (.long b :: .long a :: st) M :=
  fun F hn ad H locs ls h1 h2 h3 h4 h5 => W.lcmp F.1 F.2.1 hd  (k F hn ad H locs ls h1 h2 h3 h4 h5)
theorem zA_dup {v : Value} (hd : decode y.1 pc = .ok (.dup, 1)) (hc : v.category = 1) (k : zA x g y d mc ms Q ce sl (pc + 1) L (v :: v :: st) M) : zA x g y d mc ms Q ce sl pc L (v :: st) M :=
  fun F hn ad H locs ls h1 h2 h3 h4 h5 => lv_dup F.1 F.2.1 hd ((zm_c_cat ad v).trans hc) (k F hn ad H locs ls h1 h2 h3 h4 h5)
theorem zA_dup2 {v w : Value} (hd : decode y.1 pc = .ok (.dup2, 1)) (hc : v.category = 1) (hw : w.category = 1) (k : zA x g y d mc ms Q ce sl (pc + 1) L (v :: w :: v :: w :: st) M) : zA x g y d mc ms Q ce sl pc L (v :: w :: st) M :=
  fun F hn ad H locs ls h1 h2 h3 h4 h5 => lv_dup2_11 F.1 F.2.1 hd ((zm_c_cat ad v).trans hc) ((zm_c_cat ad w).trans hw) (k F hn ad H locs ls h1 h2 h3 h4 h5)
theorem zA_pop {v : Value} (hd : decode y.1 pc = .ok (.pop, 1)) (hc : v.category = 1) (k : zA x g y d mc ms Q ce sl (pc + 1) L st M) : zA x g y d mc ms Q ce sl pc L (v :: st) M :=
  fun F hn ad H locs ls h1 h2 h3 h4 h5 => lv_pop F.1 F.2.1 hd ((zm_c_cat ad v).trans hc) (k F hn ad H locs ls h1 h2 h3 h4 h5)
theorem zA_icmp_eq {a b : Int32} {off : Int} (tgt : Nat) (hd : decode y.1 pc = .ok (.if_icmp .eq off, 3)) (ht : (pc : Int) + off = (tgt : Int)) (kt : a = b → zA x g y d mc ms Q ce sl tgt L st M) (kf : ¬ a = b → zA x g y d mc ms Q ce sl (pc + 3) L st M) : zA x g y d mc ms Q ce sl pc L (.int b :: .int a :: st) M :=
  fun F hn ad H locs ls h1 h2 h3 h4 h5 => lv_icmp_eq F.1 F.2.1 hd ht (fun c => kt c F hn ad H locs ls h1 h2 h3 h4 h5) (fun c => kf c F hn ad H locs ls h1 h2 h3 h4 h5)
theorem zA_if_eq {a : Int32} {off : Int} (tgt : Nat) (hd : decode y.1 pc = .ok (.ifCond .eq off, 3)) (ht : (pc : Int) + off = (tgt : Int)) (kt : a = 0 → zA x g y d mc ms Q ce sl tgt L st M) (kf : ¬ a = 0 → zA x g y d mc ms Q ce sl (pc + 3) L st M) : zA x g y d mc ms Q ce sl pc L (.int a :: st) M :=
  fun F hn ad H locs ls h1 h2 h3 h4 h5 => lv_if_eq F.1 F.2.1 hd ht (fun c => kt c F hn ad H locs ls h1 h2 h3 h4 h5) (fun c => kf c F hn ad H locs ls h1 h2 h3 h4 h5)
theorem zA_icmp_ne {a b : Int32} {off : Int} (tgt : Nat) (hd : decode y.1 pc = .ok (.if_icmp .ne off, 3)) (ht : (pc : Int) + off = (tgt : Int)) (kt : ¬ a = b → zA x g y d mc ms Q ce sl tgt L st M) (kf : a = b → zA x g y d mc ms Q ce sl (pc + 3) L st M) : zA x g y d mc ms Q ce sl pc L (.int b :: .int a :: st) M :=
  fun F hn ad H locs ls h1 h2 h3 h4 h5 => lv_icmp_ne F.1 F.2.1 hd ht (fun c => kt c F hn ad H locs ls h1 h2 h3 h4 h5) (fun c => kf c F hn ad H locs ls h1 h2 h3 h4 h5)
theorem zA_if_ne {a : Int32} {off : Int} (tgt : Nat) (hd : decode y.1 pc = .ok (.ifCond .ne off, 3)) (ht : (pc : Int) + off = (tgt : Int)) (kt : ¬ a = 0 → zA x g y d mc ms Q ce sl tgt L st M) (kf : a = 0 → zA x g y d mc ms Q ce sl (pc + 3) L st M) : zA x g y d mc ms Q ce sl pc L (.int a :: st) M :=
  fun F hn ad H locs ls h1 h2 h3 h4 h5 => lv_if_ne F.1 F.2.1 hd ht (fun c => kt c F hn ad H locs ls h1 h2 h3 h4 h5) (fun c => kf c F hn ad H locs ls h1 h2 h3 h4 h5)
theorem zA_icmp_lt {a b : Int32} {off : Int} (tgt : Nat) (hd : decode y.1 pc = .ok (.if_icmp .lt off, 3)) (ht : (pc : Int) + off = (tgt : Int)) (kt : a < b → zA x g y d mc ms Q ce sl tgt L st M) (kf : ¬ a < b → zA x g y d mc ms Q ce sl (pc + 3) L st M) : zA x g y d mc ms Q ce sl pc L (.int b :: .int a :: st) M :=
  fun F hn ad H locs ls h1 h2 h3 h4 h5 => lv_icmp_lt F.1 F.2.1 hd ht (fun c => kt c F hn ad H locs ls h1 h2 h3 h4 h5) (fun c => kf c F hn ad H locs ls h1 h2 h3 h4 h5)
theorem zA_if_lt {a : Int32} {off : Int} (tgt : Nat) (hd : decode y.1 pc = .ok (.ifCond .lt off, 3)) (ht : (pc : Int) + off = (tgt : Int)) (kt : a < 0 → zA x g y d mc ms Q ce sl tgt L st M) (kf : ¬ a < 0 → zA x g y d mc ms Q ce sl (pc + 3) L st M) : zA x g y d mc ms Q ce sl pc L (.int a :: st) M :=
  fun F hn ad H locs ls h1 h2 h3 h4 h5 => lv_if_lt F.1 F.2.1 hd ht (fun c => kt c F hn ad H locs ls h1 h2 h3 h4 h5) (fun c => kf c F hn ad H locs ls h1 h2 h3 h4 h5)
theorem zA_icmp_ge {a b : Int32} {off : Int} (tgt : Nat) (hd : decode y.1 pc = .ok (.if_icmp .ge off, 3)) (ht : (pc : Int) + off = (tgt : Int)) (kt : b ≤ a → zA x g y d mc ms Q ce sl tgt L st M) (kf : ¬ b ≤ a → zA x g y d mc ms Q ce sl (pc + 3) L st M) : zA x g y d mc ms Q ce sl pc L (.int b :: .int a :: st) M :=
  fun F hn ad H locs ls h1 h2 h3 h4 h5 => lv_icmp_ge F.1 F.2.1 hd ht (fun c => kt c F hn ad H locs ls h1 h2 h3 h4 h5) (fun c => kf c F hn ad H locs ls h1 h2 h3 h4 h5)
theorem zA_if_ge {a : Int32} {off : Int} (tgt : Nat) (hd : decode y.1 pc = .ok (.ifCond .ge off, 3)) (ht : (pc : Int) + off = (tgt : Int)) (kt : 0 ≤ a → zA x g y d mc ms Q ce sl tgt L st M) (kf : ¬ 0 ≤ a → zA x g y d mc ms Q ce sl (pc + 3) L st M) : zA x g y d mc ms Q ce sl pc L (.int a :: st) M :=
  fun F hn ad H locs ls h1 h2 h3 h4 h5 => lv_if_ge F.1 F.2.1 hd ht (fun c => kt c F hn ad H locs ls h1 h2 h3 h4 h5) (fun c => kf c F hn ad H locs ls h1 h2 h3 h4 h5)
theorem zA_icmp_gt {a b : Int32} {off : Int} (tgt : Nat) (hd : decode y.1 pc = .ok (.if_icmp .gt off, 3)) (ht : (pc : Int) + off = (tgt : Int)) (kt : b < a → zA x g y d mc ms Q ce sl tgt L st M) (kf : ¬ b < a → zA x g y d mc ms Q ce sl (pc + 3) L st M) : zA x g y d mc ms Q ce sl pc L (.int b :: .int a :: st) M :=
  fun F hn ad H locs ls h1 h2 h3 h4 h5 => lv_icmp_gt F.1 F.2.1 hd ht (fun c => kt c F hn ad H locs ls h1 h2 h3 h4 h5) (fun c => kf c F hn ad H locs ls h1 h2 h3 h4 h5)
theorem zA_if_gt {a : Int32} {off : Int} (tgt : Nat) (hd : decode y.1 pc = .ok (.ifCond .gt off, 3)) (ht : (pc : Int) + off = (tgt : Int)) (kt : 0 < a → zA x g y d mc ms Q ce sl tgt L st M) (kf : ¬ 0 < a → zA x g y d mc ms Q ce sl (pc + 3) L st M) : zA x g y d mc ms Q ce sl pc L (.int a :: st) M :=
  fun F hn ad H locs ls h1 h2 h3 h4 h5 => lv_if_gt F.1 F.2.1 hd ht (fun c => kt c F hn ad H locs ls h1 h2 h3 h4 h5) (fun c => kf c F hn ad H locs ls h1 h2 h3 h4 h5)
theorem zA_icmp_le {a b : Int32} {off : Int} (tgt : Nat) (hd : decode y.1 pc = .ok (.if_icmp .le off, 3)) (ht : (pc : Int) + off = (tgt : Int)) (kt : a ≤ b → zA x g y d mc ms Q ce sl tgt L st M) (kf : ¬ a ≤ b → zA x g y d mc ms Q ce sl (pc + 3) L st M) : zA x g y d mc ms Q ce sl pc L (.int b :: .int a :: st) M :=
  fun F hn ad H locs ls h1 h2 h3 h4 h5 => lv_icmp_le F.1 F.2.1 hd ht (fun c => kt c F hn ad H locs ls h1 h2 h3 h4 h5) (fun c => kf c F hn ad H locs ls h1 h2 h3 h4 h5)
theorem zA_if_le {a : Int32} {off : Int} (tgt : Nat) (hd : decode y.1 pc = .ok (.ifCond .le off, 3)) (ht : (pc : Int) + off = (tgt : Int)) (kt : a ≤ 0 → zA x g y d mc ms Q ce sl tgt L st M) (kf : ¬ a ≤ 0 → zA x g y d mc ms Q ce sl (pc + 3) L st M) : zA x g y d mc ms Q ce sl pc L (.int a :: st) M :=
  fun F hn ad H locs ls h1 h2 h3 h4 h5 => lv_if_le F.1 F.2.1 hd ht (fun c => kt c F hn ad H locs ls h1 h2 h3 h4 h5) (fun c => kf c F hn ad H locs ls h1 h2 h3 h4 h5)
theorem zA_goto {off : Int} (tgt : Nat) (hd : decode y.1 pc = .ok (.goto off, 3)) (ht : (pc : Int) + off = (tgt : Int)) (k : zA x g y d mc ms Q ce sl tgt L st M) : zA x g y d mc ms Q ce sl pc L st M :=
  fun F hn ad H locs ls h1 h2 h3 h4 h5 => lv_goto F.1 F.2.1 hd ht (k F hn ad H locs ls h1 h2 h3 h4 h5)
theorem zA_tableOut {dflt lo hi : Int} {offs : Array Int} {len : Nat} {a : Int32} (tgt : Nat) (hd : decode y.1 pc = .ok (.tableswitch dflt lo hi offs, len)) (h : a.toInt < lo ∨ hi < a.toInt) (ht : (pc : Int) + dflt = (tgt : Int)) (k : zA x g y d mc ms Q ce sl tgt L st M) : zA x g y d mc ms Q ce sl pc L (.int a :: st) M :=
  fun F hn ad H locs ls h1 h2 h3 h4 h5 => lv_tableOut F.1 F.2.1 hd h ht (k F hn ad H locs ls h1 h2 h3 h4 h5)
theorem zA_tableIn {dflt lo hi : Int} {offs : Array Int} {len : Nat} {a : Int32} {off : Int} (tgt : Nat) (hd : decode y.1 pc = .ok (.tableswitch dflt lo hi offs, len)) (hl : ¬ a.toInt < lo) (hh : ¬ hi < a.toInt) (ho : offs[(a.toInt - lo).toNat]? = some off) (ht : (pc : Int) + off = (tgt : Int)) (k : zA x g y d mc ms Q ce sl tgt L st M) : zA x g y d mc ms Q ce sl pc L (.int a :: st) M :=
  fun F hn ad H locs ls h1 h2 h3 h4 h5 => lv_tableIn F.1 F.2.1 hd hl hh ho ht (k F hn ad H locs ls h1 h2 h3 h4 h5)
theorem zA_lookup {dflt : Int} {ps : Array (Int × Int)} {len : Nat} {a : Int32} {off : Int} (tgt : Nat) (hd : decode y.1 pc = .ok (.lookupswitch dflt ps, len)) (hp : (ps.toList.zip (ps.toList.drop 1)).all (fun (a, next) => a.1 < next.1) = true) (ho : Op.lookupswitch.offset ps.toList dflt a.toInt = off) (ht : (pc : Int) + off = (tgt : Int)) (k : zA x g y d mc ms Q ce sl tgt L st M) : zA x g y d mc ms Q ce sl pc L (.int a :: st) M :=
  fun F hn ad H locs ls h1 h2 h3 h4 h5 => lv_lookup F.1 F.2.1 hd hp ho ht (k F hn ad H locs ls h1 h2 h3 h4 h5)
theorem zA_ldc {idx : Nat} {v : Int32} (hc : Cond.constant y.2.1 idx v ∈ zm_T) (hd : decode y.1 pc = .ok (.ldc idx, 2)) (k : zA x g y d mc ms Q ce sl (pc + 2) L (.int v :: st) M) : zA x g y d mc ms Q ce sl pc L st M :=
  fun F hn ad H locs ls h1 h2 h3 h4 h5 => lv_ldc F.1 F.2.1 F.2.2.2.1 (F.2.2.2.2.1 _ hc) hd (k F hn ad H locs ls h1 h2 h3 h4 h5)
theorem zA_ldcw {idx : Nat} {v : Int32} (hc : Cond.constant y.2.1 idx v ∈ zm_T) (hd : decode y.1 pc = .ok (.ldc_w idx, 3)) (k : zA x g y d mc ms Q ce sl (pc + 3) L (.int v :: st) M) : zA x g y d mc ms Q ce sl pc L st M :=
  fun F hn ad H locs ls h1 h2 h3 h4 h5 => lv_ldcw F.1 F.2.1 F.2.2.2.1 (F.2.2.2.2.1 _ hc) hd (k F hn ad H locs ls h1 h2 h3 h4 h5)
theorem zA_ldc2 {idx : Nat} {v : Int64} (hc : Cond.constantLong y.2.1 idx v ∈ zm_T) (hd : decode y.1 pc = .ok (.ldc2_w idx, 3)) (k : zA x g y d mc ms Q ce sl (pc + 3) L (.long v :: st) M) : zA x g y d mc ms Q ce sl pc L st M :=
  fun F hn ad H locs ls h1 h2 h3 h4 h5 => lv_ldc2 F.1 F.2.1 F.2.2.2.1 (F.2.2.2.2.1 _ hc) hd (k F hn ad H locs ls h1 h2 h3 h4 h5)
theorem zA_topi {a b : Int32} (h : a = b) (k : zA x g y d mc ms Q ce sl pc L (.int b :: st) M) : zA x g y d mc ms Q ce sl pc L (.int a :: st) M := h ▸ k
theorem zA_topl {a b : Int64} (h : a = b) (k : zA x g y d mc ms Q ce sl pc L (.long b :: st) M) : zA x g y d mc ms Q ce sl pc L (.long a :: st) M := h ▸ k
theorem zA_iload_0 {l : List (Option Value)} {v : Int32} (hd : decode y.1 pc = .ok (.iload_n 0, 1)) (k : zA x g y d mc ms Q ce sl (pc + 1) (some (.int v) :: l) (.int v :: st) M) : zA x g y d mc ms Q ce sl pc (some (.int v) :: l) st M :=
  fun F hn ad H locs ls h1 h2 h3 h4 h5 => lv_iload_n F.1 F.2.1 hd rfl (h5.2.2 0 (.int v) rfl) (k F hn ad H locs ls h1 h2 h3 h4 h5)
theorem zA_istore_0 {l : List (Option Value)} {w : Option Value} {v : Int32} (hd : decode y.1 pc = .ok (.istore_n 0, 1)) (k : zA x g y d mc ms Q ce sl (pc + 1) (some (.int v) :: l) st M) : zA x g y d mc ms Q ce sl pc (w :: l) (.int v :: st) M :=
  fun F hn ad H locs ls h1 h2 h3 h4 h5 => lv_istore_n F.1 F.2.1 hd rfl (zm_as_has h5) (zm_ltl (i := 0) (by simp)) rfl (fun ls hl => k F hn ad H locs ls h1 h2 h3 h4 (zm_L_of1 (v := .int v) (L := w :: l) (i := 0) hl (fun j u e _ => absurd e (Nat.succ_ne_zero j))))
theorem zA_lload_0 {l : List (Option Value)} {v : Int64} (hd : decode y.1 pc = .ok (.lload_n 0, 1)) (k : zA x g y d mc ms Q ce sl (pc + 1) (some (.long v) :: l) (.long v :: st) M) : zA x g y d mc ms Q ce sl pc (some (.long v) :: l) st M :=
  fun F hn ad H locs ls h1 h2 h3 h4 h5 => lv_lload_n F.1 F.2.1 hd rfl (h5.2.2 0 (.long v) rfl) (k F hn ad H locs ls h1 h2 h3 h4 h5)
theorem zA_lstore_0 {l : List (Option Value)} {w w2 : Option Value} {v : Int64} (hd : decode y.1 pc = .ok (.lstore_n 0, 1)) (k : zA x g y d mc ms Q ce sl (pc + 1) (some (.long v) :: none :: l) st M) : zA x g y d mc ms Q ce sl pc (w :: w2 :: l) (.long v :: st) M :=
  fun F hn ad H locs ls h1 h2 h3 h4 h5 => lv_lstore_n F.1 F.2.1 hd rfl (zm_as_has h5) (zm_ltl (i := 1) (by simp)) rfl (fun ls hl => k F hn ad H locs ls h1 h2 h3 h4 (zm_L_of2 (v := .long v) (L := w :: w2 :: l) (i := 0) hl (fun j u e _ => absurd e (Nat.succ_ne_zero j))))
theorem zA_aload_0 {l : List (Option Value)} {v : Nat} (hd : decode y.1 pc = .ok (.aload_n 0, 1)) (k : zA x g y d mc ms Q ce sl (pc + 1) (some (.ref v) :: l) (.ref v :: st) M) : zA x g y d mc ms Q ce sl pc (some (.ref v) :: l) st M :=
  fun F hn ad H locs ls h1 h2 h3 h4 h5 => lv_aload_n F.1 F.2.1 hd rfl (h5.2.2 0 (.ref v) rfl) (k F hn ad H locs ls h1 h2 h3 h4 h5)
theorem zA_astore_0 {l : List (Option Value)} {w : Option Value} {v : Nat} (hd : decode y.1 pc = .ok (.astore_n 0, 1)) (k : zA x g y d mc ms Q ce sl (pc + 1) (some (.ref v) :: l) st M) : zA x g y d mc ms Q ce sl pc (w :: l) (.ref v :: st) M :=
  fun F hn ad H locs ls h1 h2 h3 h4 h5 => lv_astore_n F.1 F.2.1 hd rfl (zm_as_has h5) (zm_ltl (i := 0) (by simp)) rfl (fun ls hl => k F hn ad H locs ls h1 h2 h3 h4 (zm_L_of1 (v := .ref v) (L := w :: l) (i := 0) hl (fun j u e _ => absurd e (Nat.succ_ne_zero j))))
theorem zA_iinc_0 {l : List (Option Value)} {a : Int32} {n : Int} {v : Int32} (hd : decode y.1 pc = .ok (.iinc 0 n, 3)) (hv : a + Int32.ofInt n = v) (k : zA x g y d mc ms Q ce sl (pc + 3) (some (.int v) :: l) st M) : zA x g y d mc ms Q ce sl pc (some (.int a) :: l) st M := by
  intro F hn ad H locs ls h1 h2 h3 h4 h5
  obtain ⟨kk, hkk⟩ := zm_as_at (L := some (.int a) :: l) ad 0 (v := .int a) rfl
  exact lv_iinc F.1 F.2.1 hd (zm_as_has h5) hkk hv (zm_ltl (i := 0) (by simp)) rfl (fun ls hl => k F hn ad H locs ls h1 h2 h3 h4 (zm_L_of1 (v := .int v) (L := some (.int a) :: l) (i := 0) hl (fun j u e _ => absurd e (Nat.succ_ne_zero j))))
theorem zA_iload_1 {a0 : Option Value} {l : List (Option Value)} {v : Int32} (hd : decode y.1 pc = .ok (.iload_n 1, 1)) (k : zA x g y d mc ms Q ce sl (pc + 1) (a0 :: some (.int v) :: l) (.int v :: st) M) : zA x g y d mc ms Q ce sl pc (a0 :: some (.int v) :: l) st M :=
  fun F hn ad H locs ls h1 h2 h3 h4 h5 => lv_iload_n F.1 F.2.1 hd rfl (h5.2.2 1 (.int v) rfl) (k F hn ad H locs ls h1 h2 h3 h4 h5)
theorem zA_istore_1 {a0 : Option Value} {l : List (Option Value)} {w : Option Value} {v : Int32} (hd : decode y.1 pc = .ok (.istore_n 1, 1)) (hp : zm_c1 a0 = true) (k : zA x g y d mc ms Q ce sl (pc + 1) (a0 :: some (.int v) :: l) st M) : zA x g y d mc ms Q ce sl pc (a0 :: w :: l) (.int v :: st) M :=
  fun F hn ad H locs ls h1 h2 h3 h4 h5 => lv_istore_n F.1 F.2.1 hd rfl (zm_as_has h5) (zm_ltl (i := 1) (by simp)) rfl (fun ls hl => k F hn ad H locs ls h1 h2 h3 h4 (zm_L_of1 (v := .int v) (L := a0 :: w :: l) (i := 1) hl (fun j u e hj => by cases e; cases hj; exact zm_c1_of hp)))
theorem zA_lload_1 {a0 : Option Value} {l : List (Option Value)} {v : Int64} (hd : decode y.1 pc = .ok (.lload_n 1, 1)) (k : zA x g y d mc ms Q ce sl (pc + 1) (a0 :: some (.long v) :: l) (.long v :: st) M) : zA x g y d mc ms Q ce sl pc (a0 :: some (.long v) :: l) st M :=
  fun F hn ad H locs ls h1 h2 h3 h4 h5 => lv_lload_n F.1 F.2.1 hd rfl (h5.2.2 1 (.long v) rfl) (k F hn ad H locs ls h1 h2 h3 h4 h5)
theorem zA_lstore_1 {a0 : Option Value} {l : List (Option Value)} {w w2 : Option Value} {v : Int64} (hd : decode y.1 pc = .ok (.lstore_n 1, 1)) (hp : zm_c1 a0 = true) (k : zA x g y d mc ms Q ce sl (pc + 1) (a0 :: some (.long v) :: none :: l) st M) : zA x g y d mc ms Q ce sl pc (a0 :: w :: w2 :: l) (.long v :: st) M :=
  fun F hn ad H locs ls h1 h2 h3 h4 h5 => lv_lstore_n F.1 F.2.1 hd rfl (zm_as_has h5) (zm_ltl (i := 2) (by simp)) rfl (fun ls hl => k F hn ad H locs ls h1 h2 h3 h4 (zm_L_of2 (v := .long v) (L := a0 :: w :: w2 :: l) (i := 1) hl (fun j u e hj => by cases e; cases hj; exact zm_c1_of hp)))
theorem zA_aload_1 {a0 : Option Value} {l : List (Option Value)} {v : Nat} (hd : decode y.1 pc = .ok (.aload_n 1, 1)) (k : zA x g y d mc ms Q ce sl (pc + 1) (a0 :: some (.ref v) :: l) (.ref v :: st) M) : zA x g y d mc ms Q ce sl pc (a0 :: some (.ref v) :: l) st M :=
  fun F hn ad H locs ls h1 h2 h3 h4 h5 => lv_aload_n F.1 F.2.1 hd rfl (h5.2.2 1 (.ref v) rfl) (k F hn ad H locs ls h1 h2 h3 h4 h5)
theorem zA_astore_1 {a0 : Option Value} {l : List (Option Value)} {w : Option Value} {v : Nat} (hd : decode y.1 pc = .ok (.astore_n 1, 1)) (hp : zm_c1 a0 = true) (k : zA x g y d mc ms Q ce sl (pc + 1) (a0 :: some (.ref v) :: l) st M) : zA x g y d mc ms Q ce sl pc (a0 :: w :: l) (.ref v :: st) M :=
  fun F hn ad H locs ls h1 h2 h3 h4 h5 => lv_astore_n F.1 F.2.1 hd rfl (zm_as_has h5) (zm_ltl (i := 1) (by simp)) rfl (fun ls hl => k F hn ad H locs ls h1 h2 h3 h4 (zm_L_of1 (v := .ref v) (L := a0 :: w :: l) (i := 1) hl (fun j u e hj => by cases e; cases hj; exact zm_c1_of hp)))
theorem zA_iinc_1 {a0 : Option Value} {l : List (Option Value)} {a : Int32} {n : Int} {v : Int32} (hd : decode y.1 pc = .ok (.iinc 1 n, 3)) (hv : a + Int32.ofInt n = v) (hp : zm_c1 a0 = true) (k : zA x g y d mc ms Q ce sl (pc + 3) (a0 :: some (.int v) :: l) st M) : zA x g y d mc ms Q ce sl pc (a0 :: some (.int a) :: l) st M := by
  intro F hn ad H locs ls h1 h2 h3 h4 h5
  obtain ⟨kk, hkk⟩ := zm_as_at (L := a0 :: some (.int a) :: l) ad 1 (v := .int a) rfl
  exact lv_iinc F.1 F.2.1 hd (zm_as_has h5) hkk hv (zm_ltl (i := 1) (by simp)) rfl (fun ls hl => k F hn ad H locs ls h1 h2 h3 h4 (zm_L_of1 (v := .int v) (L := a0 :: some (.int a) :: l) (i := 1) hl (fun j u e hj => by cases e; cases hj; exact zm_c1_of hp)))
theorem zA_iload_2 {a0 a1 : Option Value} {l : List (Option Value)} {v : Int32} (hd : decode y.1 pc = .ok (.iload_n 2, 1)) (k : zA x g y d mc ms Q ce sl (pc + 1) (a0 :: a1 :: some (.int v) :: l) (.int v :: st) M) : zA x g y d mc ms Q ce sl pc (a0 :: a1 :: some (.int v) :: l) st M :=
  fun F hn ad H locs ls h1 h2 h3 h4 h5 => lv_iload_n F.1 F.2.1 hd rfl (h5.2.2 2 (.int v) rfl) (k F hn ad H locs ls h1 h2 h3 h4 h5)
theorem zA_istore_2 {a0 a1 : Option Value} {l : List (Option Value)} {w : Option Value} {v : Int32} (hd : decode y.1 pc = .ok (.istore_n 2, 1)) (hp : zm_c1 a1 = true) (k : zA x g y d mc ms Q ce sl (pc + 1) (a0 :: a1 :: some (.int v) :: l) st M) : zA x g y d mc ms Q ce sl pc (a0 :: a1 :: w :: l) (.int v :: st) M :=
  fun F hn ad H locs ls h1 h2 h3 h4 h5 => lv_istore_n F.1 F.2.1 hd rfl (zm_as_has h5) (zm_ltl (i := 2) (by simp)) rfl (fun ls hl => k F hn ad H locs ls h1 h2 h3 h4 (zm_L_of1 (v := .int v) (L := a0 :: a1 :: w :: l) (i := 2) hl (fun j u e hj => by cases e; cases hj; exact zm_c1_of hp)))
theorem zA_lload_2 {a0 a1 : Option Value} {l : List (Option Value)} {v : Int64} (hd : decode y.1 pc = .ok (.lload_n 2, 1)) (k : zA x g y d mc ms Q ce sl (pc + 1) (a0 :: a1 :: some (.long v) :: l) (.long v :: st) M) : zA x g y d mc ms Q ce sl pc (a0 :: a1 :: some (.long v) :: l) st M :=
  fun F hn ad H locs ls h1 h2 h3 h4 h5 => lv_lload_n F.1 F.2.1 hd rfl (h5.2.2 2 (.long v) rfl) (k F hn ad H locs ls h1 h2 h3 h4 h5)
theorem zA_lstore_2 {a0 a1 : Option Value} {l : List (Option Value)} {w w2 : Option Value} {v : Int64} (hd : decode y.1 pc = .ok (.lstore_n 2, 1)) (hp : zm_c1 a1 = true) (k : zA x g y d mc ms Q ce sl (pc + 1) (a0 :: a1 :: some (.long v) :: none :: l) st M) : zA x g y d mc ms Q ce sl pc (a0 :: a1 :: w :: w2 :: l) (.long v :: st) M :=
  fun F hn ad H locs ls h1 h2 h3 h4 h5 => lv_lstore_n F.1 F.2.1 hd rfl (zm_as_has h5) (zm_ltl (i := 3) (by simp)) rfl (fun ls hl => k F hn ad H locs ls h1 h2 h3 h4 (zm_L_of2 (v := .long v) (L := a0 :: a1 :: w :: w2 :: l) (i := 2) hl (fun j u e hj => by cases e; cases hj; exact zm_c1_of hp)))
theorem zA_aload_2 {a0 a1 : Option Value} {l : List (Option Value)} {v : Nat} (hd : decode y.1 pc = .ok (.aload_n 2, 1)) (k : zA x g y d mc ms Q ce sl (pc + 1) (a0 :: a1 :: some (.ref v) :: l) (.ref v :: st) M) : zA x g y d mc ms Q ce sl pc (a0 :: a1 :: some (.ref v) :: l) st M :=
  fun F hn ad H locs ls h1 h2 h3 h4 h5 => lv_aload_n F.1 F.2.1 hd rfl (h5.2.2 2 (.ref v) rfl) (k F hn ad H locs ls h1 h2 h3 h4 h5)
theorem zA_astore_2 {a0 a1 : Option Value} {l : List (Option Value)} {w : Option Value} {v : Nat} (hd : decode y.1 pc = .ok (.astore_n 2, 1)) (hp : zm_c1 a1 = true) (k : zA x g y d mc ms Q ce sl (pc + 1) (a0 :: a1 :: some (.ref v) :: l) st M) : zA x g y d mc ms Q ce sl pc (a0 :: a1 :: w :: l) (.ref v :: st) M :=
  fun F hn ad H locs ls h1 h2 h3 h4 h5 => lv_astore_n F.1 F.2.1 hd rfl (zm_as_has h5) (zm_ltl (i := 2) (by simp)) rfl (fun ls hl => k F hn ad H locs ls h1 h2 h3 h4 (zm_L_of1 (v := .ref v) (L := a0 :: a1 :: w :: l) (i := 2) hl (fun j u e hj => by cases e; cases hj; exact zm_c1_of hp)))
theorem zA_iinc_2 {a0 a1 : Option Value} {l : List (Option Value)} {a : Int32} {n : Int} {v : Int32} (hd : decode y.1 pc = .ok (.iinc 2 n, 3)) (hv : a + Int32.ofInt n = v) (hp : zm_c1 a1 = true) (k : zA x g y d mc ms Q ce sl (pc + 3) (a0 :: a1 :: some (.int v) :: l) st M) : zA x g y d mc ms Q ce sl pc (a0 :: a1 :: some (.int a) :: l) st M := by
  intro F hn ad H locs ls h1 h2 h3 h4 h5
  obtain ⟨kk, hkk⟩ := zm_as_at (L := a0 :: a1 :: some (.int a) :: l) ad 2 (v := .int a) rfl
  exact lv_iinc F.1 F.2.1 hd (zm_as_has h5) hkk hv (zm_ltl (i := 2) (by simp)) rfl (fun ls hl => k F hn ad H locs ls h1 h2 h3 h4 (zm_L_of1 (v := .int v) (L := a0 :: a1 :: some (.int a) :: l) (i := 2) hl (fun j u e hj => by cases e; cases hj; exact zm_c1_of hp)))
theorem zA_iload_3 {a0 a1 a2 : Option Value} {l : List (Option Value)} {v : Int32} (hd : decode y.1 pc = .ok (.iload_n 3, 1)) (k : zA x g y d mc ms Q ce sl (pc + 1) (a0 :: a1 :: a2 :: some (.int v) :: l) (.int v :: st) M) : zA x g y d mc ms Q ce sl pc (a0 :: a1 :: a2 :: some (.int v) :: l) st M :=
  fun F hn ad H locs ls h1 h2 h3 h4 h5 => lv_iload_n F.1 F.2.1 hd rfl (h5.2.2 3 (.int v) rfl) (k F hn ad H locs ls h1 h2 h3 h4 h5)
theorem zA_istore_3 {a0 a1 a2 : Option Value} {l : List (Option Value)} {w : Option Value} {v : Int32} (hd : decode y.1 pc = .ok (.istore_n 3, 1)) (hp : zm_c1 a2 = true) (k : zA x g y d mc ms Q ce sl (pc + 1) (a0 :: a1 :: a2 :: some (.int v) :: l) st M) : zA x g y d mc ms Q ce sl pc (a0 :: a1 :: a2 :: w :: l) (.int v :: st) M :=
  fun F hn ad H locs ls h1 h2 h3 h4 h5 => lv_istore_n F.1 F.2.1 hd rfl (zm_as_has h5) (zm_ltl (i := 3) (by simp)) rfl (fun ls hl => k F hn ad H locs ls h1 h2 h3 h4 (zm_L_of1 (v := .int v) (L := a0 :: a1 :: a2 :: w :: l) (i := 3) hl (fun j u e hj => by cases e; cases hj; exact zm_c1_of hp)))
theorem zA_lload_3 {a0 a1 a2 : Option Value} {l : List (Option Value)} {v : Int64} (hd : decode y.1 pc = .ok (.lload_n 3, 1)) (k : zA x g y d mc ms Q ce sl (pc + 1) (a0 :: a1 :: a2 :: some (.long v) :: l) (.long v :: st) M) : zA x g y d mc ms Q ce sl pc (a0 :: a1 :: a2 :: some (.long v) :: l) st M :=
  fun F hn ad H locs ls h1 h2 h3 h4 h5 => lv_lload_n F.1 F.2.1 hd rfl (h5.2.2 3 (.long v) rfl) (k F hn ad H locs ls h1 h2 h3 h4 h5)
theorem zA_lstore_3 {a0 a1 a2 : Option Value} {l : List (Option Value)} {w w2 : Option Value} {v : Int64} (hd : decode y.1 pc = .ok (.lstore_n 3, 1)) (hp : zm_c1 a2 = true) (k : zA x g y d mc ms Q ce sl (pc + 1) (a0 :: a1 :: a2 :: some (.long v) :: none :: l) st M) : zA x g y d mc ms Q ce sl pc (a0 :: a1 :: a2 :: w :: w2 :: l) (.long v :: st) M :=
  fun F hn ad H locs ls h1 h2 h3 h4 h5 => lv_lstore_n F.1 F.2.1 hd rfl (zm_as_has h5) (zm_ltl (i := 4) (by simp)) rfl (fun ls hl => k F hn ad H locs ls h1 h2 h3 h4 (zm_L_of2 (v := .long v) (L := a0 :: a1 :: a2 :: w :: w2 :: l) (i := 3) hl (fun j u e hj => by cases e; cases hj; exact zm_c1_of hp)))
theorem zA_aload_3 {a0 a1 a2 : Option Value} {l : List (Option Value)} {v : Nat} (hd : decode y.1 pc = .ok (.aload_n 3, 1)) (k : zA x g y d mc ms Q ce sl (pc + 1) (a0 :: a1 :: a2 :: some (.ref v) :: l) (.ref v :: st) M) : zA x g y d mc ms Q ce sl pc (a0 :: a1 :: a2 :: some (.ref v) :: l) st M :=
  fun F hn ad H locs ls h1 h2 h3 h4 h5 => lv_aload_n F.1 F.2.1 hd rfl (h5.2.2 3 (.ref v) rfl) (k F hn ad H locs ls h1 h2 h3 h4 h5)
theorem zA_astore_3 {a0 a1 a2 : Option Value} {l : List (Option Value)} {w : Option Value} {v : Nat} (hd : decode y.1 pc = .ok (.astore_n 3, 1)) (hp : zm_c1 a2 = true) (k : zA x g y d mc ms Q ce sl (pc + 1) (a0 :: a1 :: a2 :: some (.ref v) :: l) st M) : zA x g y d mc ms Q ce sl pc (a0 :: a1 :: a2 :: w :: l) (.ref v :: st) M :=
  fun F hn ad H locs ls h1 h2 h3 h4 h5 => lv_astore_n F.1 F.2.1 hd rfl (zm_as_has h5) (zm_ltl (i := 3) (by simp)) rfl (fun ls hl => k F hn ad H locs ls h1 h2 h3 h4 (zm_L_of1 (v := .ref v) (L := a0 :: a1 :: a2 :: w :: l) (i := 3) hl (fun j u e hj => by cases e; cases hj; exact zm_c1_of hp)))
theorem zA_iinc_3 {a0 a1 a2 : Option Value} {l : List (Option Value)} {a : Int32} {n : Int} {v : Int32} (hd : decode y.1 pc = .ok (.iinc 3 n, 3)) (hv : a + Int32.ofInt n = v) (hp : zm_c1 a2 = true) (k : zA x g y d mc ms Q ce sl (pc + 3) (a0 :: a1 :: a2 :: some (.int v) :: l) st M) : zA x g y d mc ms Q ce sl pc (a0 :: a1 :: a2 :: some (.int a) :: l) st M := by
  intro F hn ad H locs ls h1 h2 h3 h4 h5
  obtain ⟨kk, hkk⟩ := zm_as_at (L := a0 :: a1 :: a2 :: some (.int a) :: l) ad 3 (v := .int a) rfl
  exact lv_iinc F.1 F.2.1 hd (zm_as_has h5) hkk hv (zm_ltl (i := 3) (by simp)) rfl (fun ls hl => k F hn ad H locs ls h1 h2 h3 h4 (zm_L_of1 (v := .int v) (L := a0 :: a1 :: a2 :: some (.int a) :: l) (i := 3) hl (fun j u e hj => by cases e; cases hj; exact zm_c1_of hp)))
theorem zA_iload_4 {a0 a1 a2 a3 : Option Value} {l : List (Option Value)} {v : Int32} (hd : decode y.1 pc = .ok (.iload 4, 2)) (k : zA x g y d mc ms Q ce sl (pc + 2) (a0 :: a1 :: a2 :: a3 :: some (.int v) :: l) (.int v :: st) M) : zA x g y d mc ms Q ce sl pc (a0 :: a1 :: a2 :: a3 :: some (.int v) :: l) st M :=
  fun F hn ad H locs ls h1 h2 h3 h4 h5 => lv_iload F.1 F.2.1 hd (h5.2.2 4 (.int v) rfl) (k F hn ad H locs ls h1 h2 h3 h4 h5)
theorem zA_istore_4 {a0 a1 a2 a3 : Option Value} {l : List (Option Value)} {w : Option Value} {v : Int32} (hd : decode y.1 pc = .ok (.istore 4, 2)) (hp : zm_c1 a3 = true) (k : zA x g y d mc ms Q ce sl (pc + 2) (a0 :: a1 :: a2 :: a3 :: some (.int v) :: l) st M) : zA x g y d mc ms Q ce sl pc (a0 :: a1 :: a2 :: a3 :: w :: l) (.int v :: st) M :=
  fun F hn ad H locs ls h1 h2 h3 h4 h5 => lv_istore F.1 F.2.1 hd (zm_as_has h5) (zm_ltl (i := 4) (by simp)) rfl (fun ls hl => k F hn ad H locs ls h1 h2 h3 h4 (zm_L_of1 (v := .int v) (L := a0 :: a1 :: a2 :: a3 :: w :: l) (i := 4) hl (fun j u e hj => by cases e; cases hj; exact zm_c1_of hp)))
theorem zA_lload_4 {a0 a1 a2 a3 : Option Value} {l : List (Option Value)} {v : Int64} (hd : decode y.1 pc = .ok (.lload 4, 2)) (k : zA x g y d mc ms Q ce sl (pc + 2) (a0 :: a1 :: a2 :: a3 :: some (.long v) :: l) (.long v :: st) M) : zA x g y d mc ms Q ce sl pc (a0 :: a1 :: a2 :: a3 :: some (.long v) :: l) st M :=
  fun F hn ad H locs ls h1 h2 h3 h4 h5 => lv_lload F.1 F.2.1 hd (h5.2.2 4 (.long v) rfl) (k F hn ad H locs ls h1 h2 h3 h4 h5)
theorem zA_lstore_4 {a0 a1 a2 a3 : Option Value} {l : List (Option Value)} {w w2 : Option Value} {v : Int64} (hd : decode y.1 pc = .ok (.lstore 4, 2)) (hp : zm_c1 a3 = true) (k : zA x g y d mc ms Q ce sl (pc + 2) (a0 :: a1 :: a2 :: a3 :: some (.long v) :: none :: l) st M) : zA x g y d mc ms Q ce sl pc (a0 :: a1 :: a2 :: a3 :: w :: w2 :: l) (.long v :: st) M :=
  fun F hn ad H locs ls h1 h2 h3 h4 h5 => lv_lstore F.1 F.2.1 hd (zm_as_has h5) (zm_ltl (i := 5) (by simp)) rfl (fun ls hl => k F hn ad H locs ls h1 h2 h3 h4 (zm_L_of2 (v := .long v) (L := a0 :: a1 :: a2 :: a3 :: w :: w2 :: l) (i := 4) hl (fun j u e hj => by cases e; cases hj; exact zm_c1_of hp)))
theorem zA_aload_4 {a0 a1 a2 a3 : Option Value} {l : List (Option Value)} {v : Nat} (hd : decode y.1 pc = .ok (.aload 4, 2)) (k : zA x g y d mc ms Q ce sl (pc + 2) (a0 :: a1 :: a2 :: a3 :: some (.ref v) :: l) (.ref v :: st) M) : zA x g y d mc ms Q ce sl pc (a0 :: a1 :: a2 :: a3 :: some (.ref v) :: l) st M :=
  fun F hn ad H locs ls h1 h2 h3 h4 h5 => lv_aload F.1 F.2.1 hd (h5.2.2 4 (.ref v) rfl) (k F hn ad H locs ls h1 h2 h3 h4 h5)
theorem zA_astore_4 {a0 a1 a2 a3 : Option Value} {l : List (Option Value)} {w : Option Value} {v : Nat} (hd : decode y.1 pc = .ok (.astore 4, 2)) (hp : zm_c1 a3 = true) (k : zA x g y d mc ms Q ce sl (pc + 2) (a0 :: a1 :: a2 :: a3 :: some (.ref v) :: l) st M) : zA x g y d mc ms Q ce sl pc (a0 :: a1 :: a2 :: a3 :: w :: l) (.ref v :: st) M :=
  fun F hn ad H locs ls h1 h2 h3 h4 h5 => lv_astore F.1 F.2.1 hd (zm_as_has h5) (zm_ltl (i := 4) (by simp)) rfl (fun ls hl => k F hn ad H locs ls h1 h2 h3 h4 (zm_L_of1 (v := .ref v) (L := a0 :: a1 :: a2 :: a3 :: w :: l) (i := 4) hl (fun j u e hj => by cases e; cases hj; exact zm_c1_of hp)))
theorem zA_iinc_4 {a0 a1 a2 a3 : Option Value} {l : List (Option Value)} {a : Int32} {n : Int} {v : Int32} (hd : decode y.1 pc = .ok (.iinc 4 n, 3)) (hv : a + Int32.ofInt n = v) (hp : zm_c1 a3 = true) (k : zA x g y d mc ms Q ce sl (pc + 3) (a0 :: a1 :: a2 :: a3 :: some (.int v) :: l) st M) : zA x g y d mc ms Q ce sl pc (a0 :: a1 :: a2 :: a3 :: some (.int a) :: l) st M := by
  intro F hn ad H locs ls h1 h2 h3 h4 h5
  obtain ⟨kk, hkk⟩ := zm_as_at (L := a0 :: a1 :: a2 :: a3 :: some (.int a) :: l) ad 4 (v := .int a) rfl
  exact lv_iinc F.1 F.2.1 hd (zm_as_has h5) hkk hv (zm_ltl (i := 4) (by simp)) rfl (fun ls hl => k F hn ad H locs ls h1 h2 h3 h4 (zm_L_of1 (v := .int v) (L := a0 :: a1 :: a2 :: a3 :: some (.int a) :: l) (i := 4) hl (fun j u e hj => by cases e; cases hj; exact zm_c1_of hp)))
theorem zA_iload_5 {a0 a1 a2 a3 a4 : Option Value} {l : List (Option Value)} {v : Int32} (hd : decode y.1 pc = .ok (.iload 5, 2)) (k : zA x g y d mc ms Q ce sl (pc + 2) (a0 :: a1 :: a2 :: a3 :: a4 :: some (.int v) :: l) (.int v :: st) M) : zA x g y d mc ms Q ce sl pc (a0 :: a1 :: a2 :: a3 :: a4 :: some (.int v) :: l) st M :=
  fun F hn ad H locs ls h1 h2 h3 h4 h5 => lv_iload F.1 F.2.1 hd (h5.2.2 5 (.int v) rfl) (k F hn ad H locs ls h1 h2 h3 h4 h5)
theorem zA_istore_5 {a0 a1 a2 a3 a4 : Option Value} {l : List (Option Value)} {w : Option Value} {v : Int32} (hd : decode y.1 pc = .ok (.istore 5, 2)) (hp : zm_c1 a4 = true) (k : zA x g y d mc ms Q ce sl (pc + 2) (a0 :: a1 :: a2 :: a3 :: a4 :: some (.int v) :: l) st M) : zA x g y d mc ms Q ce sl pc (a0 :: a1 :: a2 :: a3 :: a4 :: w :: l) (.int v :: st) M :=
  fun F hn ad H locs ls h1 h2 h3 h4 h5 => lv_istore F.1 F.2.1 hd (zm_as_has h5) (zm_ltl (i := 5) (by simp)) rfl (fun ls hl => k F hn ad H locs ls h1 h2 h3 h4 (zm_L_of1 (v := .int v) (L := a0 :: a1 :: a2 :: a3 :: a4 :: w :: l) (i := 5) hl (fun j u e hj => by cases e; cases hj; exact zm_c1_of hp)))
theorem zA_lload_5 {a0 a1 a2 a3 a4 : Option Value} {l : List (Option Value)} {v : Int64} (hd : decode y.1 pc = .ok (.lload 5, 2)) (k : zA x g y d mc ms Q ce sl (pc + 2) (a0 :: a1 :: a2 :: a3 :: a4 :: some (.long v) :: l) (.long v :: st) M) : zA x g y d mc ms Q ce sl pc (a0 :: a1 :: a2 :: a3 :: a4 :: some (.long v) :: l) st M :=
  fun F hn ad H locs ls h1 h2 h3 h4 h5 => lv_lload F.1 F.2.1 hd (h5.2.2 5 (.long v) rfl) (k F hn ad H locs ls h1 h2 h3 h4 h5)
theorem zA_lstore_5 {a0 a1 a2 a3 a4 : Option Value} {l : List (Option Value)} {w w2 : Option Value} {v : Int64} (hd : decode y.1 pc = .ok (.lstore 5, 2)) (hp : zm_c1 a4 = true) (k : zA x g y d mc ms Q ce sl (pc + 2) (a0 :: a1 :: a2 :: a3 :: a4 :: some (.long v) :: none :: l) st M) : zA x g y d mc ms Q ce sl pc (a0 :: a1 :: a2 :: a3 :: a4 :: w :: w2 :: l) (.long v :: st) M :=
  fun F hn ad H locs ls h1 h2 h3 h4 h5 => lv_lstore F.1 F.2.1 hd (zm_as_has h5) (zm_ltl (i := 6) (by simp)) rfl (fun ls hl => k F hn ad H locs ls h1 h2 h3 h4 (zm_L_of2 (v := .long v) (L := a0 :: a1 :: a2 :: a3 :: a4 :: w :: w2 :: l) (i := 5) hl (fun j u e hj => by cases e; cases hj; exact zm_c1_of hp)))
theorem zA_aload_5 {a0 a1 a2 a3 a4 : Option Value} {l : List (Option Value)} {v : Nat} (hd : decode y.1 pc = .ok (.aload 5, 2)) (k : zA x g y d mc ms Q ce sl (pc + 2) (a0 :: a1 :: a2 :: a3 :: a4 :: some (.ref v) :: l) (.ref v :: st) M) : zA x g y d mc ms Q ce sl pc (a0 :: a1 :: a2 :: a3 :: a4 :: some (.ref v) :: l) st M :=
  fun F hn ad H locs ls h1 h2 h3 h4 h5 => lv_aload F.1 F.2.1 hd (h5.2.2 5 (.ref v) rfl) (k F hn ad H locs ls h1 h2 h3 h4 h5)
theorem zA_astore_5 {a0 a1 a2 a3 a4 : Option Value} {l : List (Option Value)} {w : Option Value} {v : Nat} (hd : decode y.1 pc = .ok (.astore 5, 2)) (hp : zm_c1 a4 = true) (k : zA x g y d mc ms Q ce sl (pc + 2) (a0 :: a1 :: a2 :: a3 :: a4 :: some (.ref v) :: l) st M) : zA x g y d mc ms Q ce sl pc (a0 :: a1 :: a2 :: a3 :: a4 :: w :: l) (.ref v :: st) M :=
  fun F hn ad H locs ls h1 h2 h3 h4 h5 => lv_astore F.1 F.2.1 hd (zm_as_has h5) (zm_ltl (i := 5) (by simp)) rfl (fun ls hl => k F hn ad H locs ls h1 h2 h3 h4 (zm_L_of1 (v := .ref v) (L := a0 :: a1 :: a2 :: a3 :: a4 :: w :: l) (i := 5) hl (fun j u e hj => by cases e; cases hj; exact zm_c1_of hp)))
theorem zA_iinc_5 {a0 a1 a2 a3 a4 : Option Value} {l : List (Option Value)} {a : Int32} {n : Int} {v : Int32} (hd : decode y.1 pc = .ok (.iinc 5 n, 3)) (hv : a + Int32.ofInt n = v) (hp : zm_c1 a4 = true) (k : zA x g y d mc ms Q ce sl (pc + 3) (a0 :: a1 :: a2 :: a3 :: a4 :: some (.int v) :: l) st M) : zA x g y d mc ms Q ce sl pc (a0 :: a1 :: a2 :: a3 :: a4 :: some (.int a) :: l) st M := by
  intro F hn ad H locs ls h1 h2 h3 h4 h5
  obtain ⟨kk, hkk⟩ := zm_as_at (L := a0 :: a1 :: a2 :: a3 :: a4 :: some (.int a) :: l) ad 5 (v := .int a) rfl
  exact lv_iinc F.1 F.2.1 hd (zm_as_has h5) hkk hv (zm_ltl (i := 5) (by simp)) rfl (fun ls hl => k F hn ad H locs ls h1 h2 h3 h4 (zm_L_of1 (v := .int v) (L := a0 :: a1 :: a2 :: a3 :: a4 :: some (.int a) :: l) (i := 5) hl (fun j u e hj => by cases e; cases hj; exact zm_c1_of hp)))
theorem zA_iload_6 {a0 a1 a2 a3 a4 a5 : Option Value} {l : List (Option Value)} {v : Int32} (hd : decode y.1 pc = .ok (.iload 6, 2)) (k : zA x g y d mc ms Q ce sl (pc + 2) (a0 :: a1 :: a2 :: a3 :: a4 :: a5 :: some (.int v) :: l) (.int v :: st) M) : zA x g y d mc ms Q ce sl pc (a0 :: a1 :: a2 :: a3 :: a4 :: a5 :: some (.int v) :: l) st M :=
  fun F hn ad H locs ls h1 h2 h3 h4 h5 => lv_iload F.1 F.2.1 hd (h5.2.2 6 (.int v) rfl) (k F hn ad H locs ls h1 h2 h3 h4 h5)
theorem zA_istore_6 {a0 a1 a2 a3 a4 a5 : Option Value} {l : List (Option Value)} {w : Option Value} {v : Int32} (hd : decode y.1 pc = .ok (.istore 6, 2)) (hp : zm_c1 a5 = true) (k : zA x g y d mc ms Q ce sl (pc + 2) (a0 :: a1 :: a2 :: a3 :: a4 :: a5 :: some (.int v) :: l) st M) : zA x g y d mc ms Q ce sl pc (a0 :: a1 :: a2 :: a3 :: a4 :: a5 :: w :: l) (.int v :: st) M :=
  fun F hn ad H locs ls h1 h2 h3 h4 h5 => lv_istore F.1 F.2.1 hd (zm_as_has h5) (zm_ltl (i := 6) (by simp)) rfl (fun ls hl => k F hn ad H locs ls h1 h2 h3 h4 (zm_L_of1 (v := .int v) (L := a0 :: a1 :: a2 :: a3 :: a4 :: a5 :: w :: l) (i := 6) hl (fun j u e hj => by cases e; cases hj; exact zm_c1_of hp)))
theorem zA_lload_6 {a0 a1 a2 a3 a4 a5 : Option Value} {l : List (Option Value)} {v : Int64} (hd : decode y.1 pc = .ok (.lload 6, 2)) (k : zA x g y d mc ms Q ce sl (pc + 2) (a0 :: a1 :: a2 :: a3 :: a4 :: a5 :: some (.long v) :: l) (.long v :: st) M) : zA x g y d mc ms Q ce sl pc (a0 :: a1 :: a2 :: a3 :: a4 :: a5 :: some (.long v) :: l) st M :=
  fun F hn ad H locs ls h1 h2 h3 h4 h5 => lv_lload F.1 F.2.1 hd (h5.2.2 6 (.long v) rfl) (k F hn ad H locs ls h1 h2 h3 h4 h5)
theorem zA_lstore_6 {a0 a1 a2 a3 a4 a5 : Option Value} {l : List (Option Value)} {w w2 : Option Value} {v : Int64} (hd : decode y.1 pc = .ok (.lstore 6, 2)) (hp : zm_c1 a5 = true) (k : zA x g y d mc ms Q ce sl (pc + 2) (a0 :: a1 :: a2 :: a3 :: a4 :: a5 :: some (.long v) :: none :: l) st M) : zA x g y d mc ms Q ce sl pc (a0 :: a1 :: a2 :: a3 :: a4 :: a5 :: w :: w2 :: l) (.long v :: st) M :=
  fun F hn ad H locs ls h1 h2 h3 h4 h5 => lv_lstore F.1 F.2.1 hd (zm_as_has h5) (zm_ltl (i := 7) (by simp)) rfl (fun ls hl => k F hn ad H locs ls h1 h2 h3 h4 (zm_L_of2 (v := .long v) (L := a0 :: a1 :: a2 :: a3 :: a4 :: a5 :: w :: w2 :: l) (i := 6) hl (fun j u e hj => by cases e; cases hj; exact zm_c1_of hp)))
theorem zA_aload_6 {a0 a1 a2 a3 a4 a5 : Option Value} {l : List (Option Value)} {v : Nat} (hd : decode y.1 pc = .ok (.aload 6, 2)) (k : zA x g y d mc ms Q ce sl (pc + 2) (a0 :: a1 :: a2 :: a3 :: a4 :: a5 :: some (.ref v) :: l) (.ref v :: st) M) : zA x g y d mc ms Q ce sl pc (a0 :: a1 :: a2 :: a3 :: a4 :: a5 :: some (.ref v) :: l) st M :=
  fun F hn ad H locs ls h1 h2 h3 h4 h5 => lv_aload F.1 F.2.1 hd (h5.2.2 6 (.ref v) rfl) (k F hn ad H locs ls h1 h2 h3 h4 h5)
theorem zA_astore_6 {a0 a1 a2 a3 a4 a5 : Option Value} {l : List (Option Value)} {w : Option Value} {v : Nat} (hd : decode y.1 pc = .ok (.astore 6, 2)) (hp : zm_c1 a5 = true) (k : zA x g y d mc ms Q ce sl (pc + 2) (a0 :: a1 :: a2 :: a3 :: a4 :: a5 :: some (.ref v) :: l) st M) : zA x g y d mc ms Q ce sl pc (a0 :: a1 :: a2 :: a3 :: a4 :: a5 :: w :: l) (.ref v :: st) M :=
  fun F hn ad H locs ls h1 h2 h3 h4 h5 => lv_astore F.1 F.2.1 hd (zm_as_has h5) (zm_ltl (i := 6) (by simp)) rfl (fun ls hl => k F hn ad H locs ls h1 h2 h3 h4 (zm_L_of1 (v := .ref v) (L := a0 :: a1 :: a2 :: a3 :: a4 :: a5 :: w :: l) (i := 6) hl (fun j u e hj => by cases e; cases hj; exact zm_c1_of hp)))
theorem zA_iinc_6 {a0 a1 a2 a3 a4 a5 : Option Value} {l : List (Option Value)} {a : Int32} {n : Int} {v : Int32} (hd : decode y.1 pc = .ok (.iinc 6 n, 3)) (hv : a + Int32.ofInt n = v) (hp : zm_c1 a5 = true) (k : zA x g y d mc ms Q ce sl (pc + 3) (a0 :: a1 :: a2 :: a3 :: a4 :: a5 :: some (.int v) :: l) st M) : zA x g y d mc ms Q ce sl pc (a0 :: a1 :: a2 :: a3 :: a4 :: a5 :: some (.int a) :: l) st M := by
  intro F hn ad H locs ls h1 h2 h3 h4 h5
  obtain ⟨kk, hkk⟩ := zm_as_at (L := a0 :: a1 :: a2 :: a3 :: a4 :: a5 :: some (.int a) :: l) ad 6 (v := .int a) rfl
  exact lv_iinc F.1 F.2.1 hd (zm_as_has h5) hkk hv (zm_ltl (i := 6) (by simp)) rfl (fun ls hl => k F hn ad H locs ls h1 h2 h3 h4 (zm_L_of1 (v := .int v) (L := a0 :: a1 :: a2 :: a3 :: a4 :: a5 :: some (.int a) :: l) (i := 6) hl (fun j u e hj => by cases e; cases hj; exact zm_c1_of hp)))
theorem zA_iload_7 {a0 a1 a2 a3 a4 a5 a6 : Option Value} {l : List (Option Value)} {v : Int32} (hd : decode y.1 pc = .ok (.iload 7, 2)) (k : zA x g y d mc ms Q ce sl (pc + 2) (a0 :: a1 :: a2 :: a3 :: a4 :: a5 :: a6 :: some (.int v) :: l) (.int v :: st) M) : zA x g y d mc ms Q ce sl pc (a0 :: a1 :: a2 :: a3 :: a4 :: a5 :: a6 :: some (.int v) :: l) st M :=
  fun F hn ad H locs ls h1 h2 h3 h4 h5 => lv_iload F.1 F.2.1 hd (h5.2.2 7 (.int v) rfl) (k F hn ad H locs ls h1 h2 h3 h4 h5)
theorem zA_istore_7 {a0 a1 a2 a3 a4 a5 a6 : Option Value} {l : List (Option Value)} {w : Option Value} {v : Int32} (hd : decode y.1 pc = .ok (.istore 7, 2)) (hp : zm_c1 a6 = true) (k : zA x g y d mc ms Q ce sl (pc + 2) (a0 :: a1 :: a2 :: a3 :: a4 :: a5 :: a6 :: some (.int v) :: l) st M) : zA x g y d mc ms Q ce sl pc (a0 :: a1 :: a2 :: a3 :: a4 :: a5 :: a6 :: w :: l) (.int v :: st) M :=
  fun F hn ad H locs ls h1 h2 h3 h4 h5 => lv_istore F.1 F.2.1 hd (zm_as_has h5) (zm_ltl (i := 7) (by simp)) rfl (fun ls hl => k F hn ad H locs ls h1 h2 h3 h4 (zm_L_of1 (v := .int v) (L := a0 :: a1 :: a2 :: a3 :: a4 :: a5 :: a6 :: w :: l) (i := 7) hl (fun j u e hj => by cases e; cases hj; exact zm_c1_of hp)))
theorem zA_lload_7 {a0 a1 a2 a3 a4 a5 a6 : Option Value} {l : List (Option Value)} {v : Int64} (hd : decode y.1 pc = .ok (.lload 7, 2)) (k : zA x g y d mc ms Q ce sl (pc + 2) (a0 :: a1 :: a2 :: a3 :: a4 :: a5 :: a6 :: some (.long v) :: l) (.long v :: st) M) : zA x g y d mc ms Q ce sl pc (a0 :: a1 :: a2 :: a3 :: a4 :: a5 :: a6 :: some (.long v) :: l) st M :=
  fun F hn ad H locs ls h1 h2 h3 h4 h5 => lv_lload F.1 F.2.1 hd (h5.2.2 7 (.long v) rfl) (k F hn ad H locs ls h1 h2 h3 h4 h5)
theorem zA_lstore_7 {a0 a1 a2 a3 a4 a5 a6 : Option Value} {l : List (Option Value)} {w w2 : Option Value} {v : Int64} (hd : decode y.1 pc = .ok (.lstore 7, 2)) (hp : zm_c1 a6 = true) (k : zA x g y d mc ms Q ce sl (pc + 2) (a0 :: a1 :: a2 :: a3 :: a4 :: a5 :: a6 :: some (.long v) :: none :: l) st M) : zA x g y d mc ms Q ce sl pc (a0 :: a1 :: a2 :: a3 :: a4 :: a5 :: a6 :: w :: w2 :: l) (.long v :: st) M :=
  fun F hn ad H locs ls h1 h2 h3 h4 h5 => lv_lstore F.1 F.2.1 hd (zm_as_has h5) (zm_ltl (i := 8) (by simp)) rfl (fun ls hl => k F hn ad H locs ls h1 h2 h3 h4 (zm_L_of2 (v := .long v) (L := a0 :: a1 :: a2 :: a3 :: a4 :: a5 :: a6 :: w :: w2 :: l) (i := 7) hl (fun j u e hj => by cases e; cases hj; exact zm_c1_of hp)))
theorem zA_aload_7 {a0 a1 a2 a3 a4 a5 a6 : Option Value} {l : List (Option Value)} {v : Nat} (hd : decode y.1 pc = .ok (.aload 7, 2)) (k : zA x g y d mc ms Q ce sl (pc + 2) (a0 :: a1 :: a2 :: a3 :: a4 :: a5 :: a6 :: some (.ref v) :: l) (.ref v :: st) M) : zA x g y d mc ms Q ce sl pc (a0 :: a1 :: a2 :: a3 :: a4 :: a5 :: a6 :: some (.ref v) :: l) st M :=
  fun F hn ad H locs ls h1 h2 h3 h4 h5 => lv_aload F.1 F.2.1 hd (h5.2.2 7 (.ref v) rfl) (k F hn ad H locs ls h1 h2 h3 h4 h5)
theorem zA_astore_7 {a0 a1 a2 a3 a4 a5 a6 : Option Value} {l : List (Option Value)} {w : Option Value} {v : Nat} (hd : decode y.1 pc = .ok (.astore 7, 2)) (hp : zm_c1 a6 = true) (k : zA x g y d mc ms Q ce sl (pc + 2) (a0 :: a1 :: a2 :: a3 :: a4 :: a5 :: a6 :: some (.ref v) :: l) st M) : zA x g y d mc ms Q ce sl pc (a0 :: a1 :: a2 :: a3 :: a4 :: a5 :: a6 :: w :: l) (.ref v :: st) M :=
  fun F hn ad H locs ls h1 h2 h3 h4 h5 => lv_astore F.1 F.2.1 hd (zm_as_has h5) (zm_ltl (i := 7) (by simp)) rfl (fun ls hl => k F hn ad H locs ls h1 h2 h3 h4 (zm_L_of1 (v := .ref v) (L := a0 :: a1 :: a2 :: a3 :: a4 :: a5 :: a6 :: w :: l) (i := 7) hl (fun j u e hj => by cases e; cases hj; exact zm_c1_of hp)))
theorem zA_iinc_7 {a0 a1 a2 a3 a4 a5 a6 : Option Value} {l : List (Option Value)} {a : Int32} {n : Int} {v : Int32} (hd : decode y.1 pc = .ok (.iinc 7 n, 3)) (hv : a + Int32.ofInt n = v) (hp : zm_c1 a6 = true) (k : zA x g y d mc ms Q ce sl (pc + 3) (a0 :: a1 :: a2 :: a3 :: a4 :: a5 :: a6 :: some (.int v) :: l) st M) : zA x g y d mc ms Q ce sl pc (a0 :: a1 :: a2 :: a3 :: a4 :: a5 :: a6 :: some (.int a) :: l) st M := by
  intro F hn ad H locs ls h1 h2 h3 h4 h5
  obtain ⟨kk, hkk⟩ := zm_as_at (L := a0 :: a1 :: a2 :: a3 :: a4 :: a5 :: a6 :: some (.int a) :: l) ad 7 (v := .int a) rfl
  exact lv_iinc F.1 F.2.1 hd (zm_as_has h5) hkk hv (zm_ltl (i := 7) (by simp)) rfl (fun ls hl => k F hn ad H locs ls h1 h2 h3 h4 (zm_L_of1 (v := .int v) (L := a0 :: a1 :: a2 :: a3 :: a4 :: a5 :: a6 :: some (.int a) :: l) (i := 7) hl (fun j u e hj => by cases e; cases hj; exact zm_c1_of hp)))
theorem zA_iload_8 {a0 a1 a2 a3 a4 a5 a6 a7 : Option Value} {l : List (Option Value)} {v : Int32} (hd : decode y.1 pc = .ok (.iload 8, 2)) (k : zA x g y d mc ms Q ce sl (pc + 2) (a0 :: a1 :: a2 :: a3 :: a4 :: a5 :: a6 :: a7 :: some (.int v) :: l) (.int v :: st) M) : zA x g y d mc ms Q ce sl pc (a0 :: a1 :: a2 :: a3 :: a4 :: a5 :: a6 :: a7 :: some (.int v) :: l) st M :=
  fun F hn ad H locs ls h1 h2 h3 h4 h5 => lv_iload F.1 F.2.1 hd (h5.2.2 8 (.int v) rfl) (k F hn ad H locs ls h1 h2 h3 h4 h5)
theorem zA_istore_8 {a0 a1 a2 a3 a4 a5 a6 a7 : Option Value} {l : List (Option Value)} {w : Option Value} {v : Int32} (hd : decode y.1 pc = .ok (.istore 8, 2)) (hp : zm_c1 a7 = true) (k : zA x g y d mc ms Q ce sl (pc + 2) (a0 :: a1 :: a2 :: a3 :: a4 :: a5 :: a6 :: a7 :: some (.int v) :: l) st M) : zA x g y d mc ms Q ce sl pc (a0 :: a1 :: a2 :: a3 :: a4 :: a5 :: a6 :: a7 :: w :: l) (.int v :: st) M :=
  fun F hn ad H locs ls h1 h2 h3 h4 h5 => lv_istore F.1 F.2.1 hd (zm_as_has h5) (zm_ltl (i := 8) (by simp)) rfl (fun ls hl => k F hn ad H locs ls h1 h2 h3 h4 (zm_L_of1 (v := .int v) (L := a0 :: a1 :: a2 :: a3 :: a4 :: a5 :: a6 :: a7 :: w :: l) (i := 8) hl (fun j u e hj => by cases e; cases hj; exact zm_c1_of hp)))
theorem zA_lload_8 {a0 a1 a2 a3 a4 a5 a6 a7 : Option Value} {l : List (Option Value)} {v : Int64} (hd : decode y.1 pc = .ok (.lload 8, 2)) (k : zA x g y d mc ms Q ce sl (pc + 2) (a0 :: a1 :: a2 :: a3 :: a4 :: a5 :: a6 :: a7 :: some (.long v) :: l) (.long v :: st) M) : zA x g y d mc ms Q ce sl pc (a0 :: a1 :: a2 :: a3 :: a4 :: a5 :: a6 :: a7 :: some (.long v) :: l) st M :=
  fun F hn ad H locs ls h1 h2 h3 h4 h5 => lv_lload F.1 F.2.1 hd (h5.2.2 8 (.long v) rfl) (k F hn ad H locs ls h1 h2 h3 h4 h5)
theorem zA_lstore_8 {a0 a1 a2 a3 a4 a5 a6 a7 : Option Value} {l : List (Option Value)} {w w2 : Option Value} {v : Int64} (hd : decode y.1 pc = .ok (.lstore 8, 2)) (hp : zm_c1 a7 = true) (k : zA x g y d mc ms Q ce sl (pc + 2) (a0 :: a1 :: a2 :: a3 :: a4 :: a5 :: a6 :: a7 :: some (.long v) :: none :: l) st M) : zA x g y d mc ms Q ce sl pc (a0 :: a1 :: a2 :: a3 :: a4 :: a5 :: a6 :: a7 :: w :: w2 :: l) (.long v :: st) M :=
  fun F hn ad H locs ls h1 h2 h3 h4 h5 => lv_lstore F.1 F.2.1 hd (zm_as_has h5) (zm_ltl (i := 9) (by simp)) rfl (fun ls hl => k F hn ad H locs ls h1 h2 h3 h4 (zm_L_of2 (v := .long v) (L := a0 :: a1 :: a2 :: a3 :: a4 :: a5 :: a6 :: a7 :: w :: w2 :: l) (i := 8) hl (fun j u e hj => by cases e; cases hj; exact zm_c1_of hp)))
theorem zA_aload_8 {a0 a1 a2 a3 a4 a5 a6 a7 : Option Value} {l : List (Option Value)} {v : Nat} (hd : decode y.1 pc = .ok (.aload 8, 2)) (k : zA x g y d mc ms Q ce sl (pc + 2) (a0 :: a1 :: a2 :: a3 :: a4 :: a5 :: a6 :: a7 :: some (.ref v) :: l) (.ref v :: st) M) : zA x g y d mc ms Q ce sl pc (a0 :: a1 :: a2 :: a3 :: a4 :: a5 :: a6 :: a7 :: some (.ref v) :: l) st M :=
  fun F hn ad H locs ls h1 h2 h3 h4 h5 => lv_aload F.1 F.2.1 hd (h5.2.2 8 (.ref v) rfl) (k F hn ad H locs ls h1 h2 h3 h4 h5)
theorem zA_astore_8 {a0 a1 a2 a3 a4 a5 a6 a7 : Option Value} {l : List (Option Value)} {w : Option Value} {v : Nat} (hd : decode y.1 pc = .ok (.astore 8, 2)) (hp : zm_c1 a7 = true) (k : zA x g y d mc ms Q ce sl (pc + 2) (a0 :: a1 :: a2 :: a3 :: a4 :: a5 :: a6 :: a7 :: some (.ref v) :: l) st M) : zA x g y d mc ms Q ce sl pc (a0 :: a1 :: a2 :: a3 :: a4 :: a5 :: a6 :: a7 :: w :: l) (.ref v :: st) M :=
  fun F hn ad H locs ls h1 h2 h3 h4 h5 => lv_astore F.1 F.2.1 hd (zm_as_has h5) (zm_ltl (i := 8) (by simp)) rfl (fun ls hl => k F hn ad H locs ls h1 h2 h3 h4 (zm_L_of1 (v := .ref v) (L := a0 :: a1 :: a2 :: a3 :: a4 :: a5 :: a6 :: a7 :: w :: l) (i := 8) hl (fun j u e hj => by cases e; cases hj; exact zm_c1_of hp)))
theorem zA_iinc_8 {a0 a1 a2 a3 a4 a5 a6 a7 : Option Value} {l : List (Option Value)} {a : Int32} {n : Int} {v : Int32} (hd : decode y.1 pc = .ok (.iinc 8 n, 3)) (hv : a + Int32.ofInt n = v) (hp : zm_c1 a7 = true) (k : zA x g y d mc ms Q ce sl (pc + 3) (a0 :: a1 :: a2 :: a3 :: a4 :: a5 :: a6 :: a7 :: some (.int v) :: l) st M) : zA x g y d mc ms Q ce sl pc (a0 :: a1 :: a2 :: a3 :: a4 :: a5 :: a6 :: a7 :: some (.int a) :: l) st M := by
  intro F hn ad H locs ls h1 h2 h3 h4 h5
  obtain ⟨kk, hkk⟩ := zm_as_at (L := a0 :: a1 :: a2 :: a3 :: a4 :: a5 :: a6 :: a7 :: some (.int a) :: l) ad 8 (v := .int a) rfl
  exact lv_iinc F.1 F.2.1 hd (zm_as_has h5) hkk hv (zm_ltl (i := 8) (by simp)) rfl (fun ls hl => k F hn ad H locs ls h1 h2 h3 h4 (zm_L_of1 (v := .int v) (L := a0 :: a1 :: a2 :: a3 :: a4 :: a5 :: a6 :: a7 :: some (.int a) :: l) (i := 8) hl (fun j u e hj => by cases e; cases hj; exact zm_c1_of hp)))
theorem zA_iload_9 {a0 a1 a2 a3 a4 a5 a6 a7 a8 : Option Value} {l : List (Option Value)} {v : Int32} (hd : decode y.1 pc = .ok (.iload 9, 2)) (k : zA x g y d mc ms Q ce sl (pc + 2) (a0 :: a1 :: a2 :: a3 :: a4 :: a5 :: a6 :: a7 :: a8 :: some (.int v) :: l) (.int v :: st) M) : zA x g y d mc ms Q ce sl pc (a0 :: a1 :: a2 :: a3 :: a4 :: a5 :: a6 :: a7 :: a8 :: some (.int v) :: l) st M :=
  fun F hn ad H locs ls h1 h2 h3 h4 h5 => lv_iload F.1 F.2.1 hd (h5.2.2 9 (.int v) rfl) (k F hn ad H locs ls h1 h2 h3 h4 h5)
theorem zA_istore_9 {a0 a1 a2 a3 a4 a5 a6 a7 a8 : Option Value} {l : List (Option Value)} {w : Option Value} {v : Int32} (hd : decode y.1 pc = .ok (.istore 9, 2)) (hp : zm_c1 a8 = true) (k : zA x g y d mc ms Q ce sl (pc + 2) (a0 :: a1 :: a2 :: a3 :: a4 :: a5 :: a6 :: a7 :: a8 :: some (.int v) :: l) st M) : zA x g y d mc ms Q ce sl pc (a0 :: a1 :: a2 :: a3 :: a4 :: a5 :: a6 :: a7 :: a8 :: w :: l) (.int v :: st) M :=
  fun F hn ad H locs ls h1 h2 h3 h4 h5 => lv_istore F.1 F.2.1 hd (zm_as_has h5) (zm_ltl (i := 9) (by simp)) rfl (fun ls hl => k F hn ad H locs ls h1 h2 h3 h4 (zm_L_of1 (v := .int v) (L := a0 :: a1 :: a2 :: a3 :: a4 :: a5 :: a6 :: a7 :: a8 :: w :: l) (i := 9) hl (fun j u e hj => by cases e; cases hj; exact zm_c1_of hp)))
theorem zA_lload_9 {a0 a1 a2 a3 a4 a5 a6 a7 a8 : Option Value} {l : List (Option Value)} {v : Int64} (hd : decode y.1 pc = .ok (.lload 9, 2)) (k : zA x g y d mc ms Q ce sl (pc + 2) (a0 :: a1 :: a2 :: a3 :: a4 :: a5 :: a6 :: a7 :: a8 :: some (.long v) :: l) (.long v :: st) M) : zA x g y d mc ms Q ce sl pc (a0 :: a1 :: a2 :: a3 :: a4 :: a5 :: a6 :: a7 :: a8 :: some (.long v) :: l) st M :=
  fun F hn ad H locs ls h1 h2 h3 h4 h5 => lv_lload F.1 F.2.1 hd (h5.2.2 9 (.long v) rfl) (k F hn ad H locs ls h1 h2 h3 h4 h5)
theorem zA_lstore_9 {a0 a1 a2 a3 a4 a5 a6 a7 a8 : Option Value} {l : List (Option Value)} {w w2 : Option Value} {v : Int64} (hd : decode y.1 pc = .ok (.lstore 9, 2)) (hp : zm_c1 a8 = true) (k : zA x g y d mc ms Q ce sl (pc + 2) (a0 :: a1 :: a2 :: a3 :: a4 :: a5 :: a6 :: a7 :: a8 :: some (.long v) :: none :: l) st M) : zA x g y d mc ms Q ce sl pc (a0 :: a1 :: a2 :: a3 :: a4 :: a5 :: a6 :: a7 :: a8 :: w :: w2 :: l) (.long v :: st) M :=
  fun F hn ad H locs ls h1 h2 h3 h4 h5 => lv_lstore F.1 F.2.1 hd (zm_as_has h5) (zm_ltl (i := 10) (by simp)) rfl (fun ls hl => k F hn ad H locs ls h1 h2 h3 h4 (zm_L_of2 (v := .long v) (L := a0 :: a1 :: a2 :: a3 :: a4 :: a5 :: a6 :: a7 :: a8 :: w :: w2 :: l) (i := 9) hl (fun j u e hj => by cases e; cases hj; exact zm_c1_of hp)))
theorem zA_aload_9 {a0 a1 a2 a3 a4 a5 a6 a7 a8 : Option Value} {l : List (Option Value)} {v : Nat} (hd : decode y.1 pc = .ok (.aload 9, 2)) (k : zA x g y d mc ms Q ce sl (pc + 2) (a0 :: a1 :: a2 :: a3 :: a4 :: a5 :: a6 :: a7 :: a8 :: some (.ref v) :: l) (.ref v :: st) M) : zA x g y d mc ms Q ce sl pc (a0 :: a1 :: a2 :: a3 :: a4 :: a5 :: a6 :: a7 :: a8 :: some (.ref v) :: l) st M :=
  fun F hn ad H locs ls h1 h2 h3 h4 h5 => lv_aload F.1 F.2.1 hd (h5.2.2 9 (.ref v) rfl) (k F hn ad H locs ls h1 h2 h3 h4 h5)
theorem zA_astore_9 {a0 a1 a2 a3 a4 a5 a6 a7 a8 : Option Value} {l : List (Option Value)} {w : Option Value} {v : Nat} (hd : decode y.1 pc = .ok (.astore 9, 2)) (hp : zm_c1 a8 = true) (k : zA x g y d mc ms Q ce sl (pc + 2) (a0 :: a1 :: a2 :: a3 :: a4 :: a5 :: a6 :: a7 :: a8 :: some (.ref v) :: l) st M) : zA x g y d mc ms Q ce sl pc (a0 :: a1 :: a2 :: a3 :: a4 :: a5 :: a6 :: a7 :: a8 :: w :: l) (.ref v :: st) M :=
  fun F hn ad H locs ls h1 h2 h3 h4 h5 => lv_astore F.1 F.2.1 hd (zm_as_has h5) (zm_ltl (i := 9) (by simp)) rfl (fun ls hl => k F hn ad H locs ls h1 h2 h3 h4 (zm_L_of1 (v := .ref v) (L := a0 :: a1 :: a2 :: a3 :: a4 :: a5 :: a6 :: a7 :: a8 :: w :: l) (i := 9) hl (fun j u e hj => by cases e; cases hj; exact zm_c1_of hp)))
theorem zA_iinc_9 {a0 a1 a2 a3 a4 a5 a6 a7 a8 : Option Value} {l : List (Option Value)} {a : Int32} {n : Int} {v : Int32} (hd : decode y.1 pc = .ok (.iinc 9 n, 3)) (hv : a + Int32.ofInt n = v) (hp : zm_c1 a8 = true) (k : zA x g y d mc ms Q ce sl (pc + 3) (a0 :: a1 :: a2 :: a3 :: a4 :: a5 :: a6 :: a7 :: a8 :: some (.int v) :: l) st M) : zA x g y d mc ms Q ce sl pc (a0 :: a1 :: a2 :: a3 :: a4 :: a5 :: a6 :: a7 :: a8 :: some (.int a) :: l) st M := by
  intro F hn ad H locs ls h1 h2 h3 h4 h5
  obtain ⟨kk, hkk⟩ := zm_as_at (L := a0 :: a1 :: a2 :: a3 :: a4 :: a5 :: a6 :: a7 :: a8 :: some (.int a) :: l) ad 9 (v := .int a) rfl
  exact lv_iinc F.1 F.2.1 hd (zm_as_has h5) hkk hv (zm_ltl (i := 9) (by simp)) rfl (fun ls hl => k F hn ad H locs ls h1 h2 h3 h4 (zm_L_of1 (v := .int v) (L := a0 :: a1 :: a2 :: a3 :: a4 :: a5 :: a6 :: a7 :: a8 :: some (.int a) :: l) (i := 9) hl (fun j u e hj => by cases e; cases hj; exact zm_c1_of hp)))
theorem zA_iload_10 {a0 a1 a2 a3 a4 a5 a6 a7 a8 a9 : Option Value} {l : List (Option Value)} {v : Int32} (hd : decode y.1 pc = .ok (.iload 10, 2)) (k : zA x g y d mc ms Q ce sl (pc + 2) (a0 :: a1 :: a2 :: a3 :: a4 :: a5 :: a6 :: a7 :: a8 :: a9 :: some (.int v) :: l) (.int v :: st) M) : zA x g y d mc ms Q ce sl pc (a0 :: a1 :: a2 :: a3 :: a4 :: a5 :: a6 :: a7 :: a8 :: a9 :: some (.int v) :: l) st M :=
  fun F hn ad H locs ls h1 h2 h3 h4 h5 => lv_iload F.1 F.2.1 hd (h5.2.2 10 (.int v) rfl) (k F hn ad H locs ls h1 h2 h3 h4 h5)
theorem zA_istore_10 {a0 a1 a2 a3 a4 a5 a6 a7 a8 a9 : Option Value} {l : List (Option Value)} {w : Option Value} {v : Int32} (hd : decode y.1 pc = .ok (.istore 10, 2)) (hp : zm_c1 a9 = true) (k : zA x g y d mc ms Q ce sl (pc + 2) (a0 :: a1 :: a2 :: a3 :: a4 :: a5 :: a6 :: a7 :: a8 :: a9 :: some (.int v) :: l) st M) : zA x g y d mc ms Q ce sl pc (a0 :: a1 :: a2 :: a3 :: a4 :: a5 :: a6 :: a7 :: a8 :: a9 :: w :: l) (.int v :: st) M :=
  fun F hn ad H locs ls h1 h2 h3 h4 h5 => lv_istore F.1 F.2.1 hd (zm_as_has h5) (zm_ltl (i := 10) (by simp)) rfl (fun ls hl => k F hn ad H locs ls h1 h2 h3 h4 (zm_L_of1 (v := .int v) (L := a0 :: a1 :: a2 :: a3 :: a4 :: a5 :: a6 :: a7 :: a8 :: a9 :: w :: l) (i := 10) hl (fun j u e hj => by cases e; cases hj; exact zm_c1_of hp)))
theorem zA_lload_10 {a0 a1 a2 a3 a4 a5 a6 a7 a8 a9 : Option Value} {l : List (Option Value)} {v : Int64} (hd : decode y.1 pc = .ok (.lload 10, 2)) (k : zA x g y d mc ms Q ce sl (pc + 2) (a0 :: a1 :: a2 :: a3 :: a4 :: a5 :: a6 :: a7 :: a8 :: a9 :: some (.long v) :: l) (.long v :: st) M) : zA x g y d mc ms Q ce sl pc (a0 :: a1 :: a2 :: a3 :: a4 :: a5 :: a6 :: a7 :: a8 :: a9 :: some (.long v) :: l) st M :=
  fun F hn ad H locs ls h1 h2 h3 h4 h5 => lv_lload F.1 F.2.1 hd (h5.2.2 10 (.long v) rfl) (k F hn ad H locs ls h1 h2 h3 h4 h5)
theorem zA_lstore_10 {a0 a1 a2 a3 a4 a5 a6 a7 a8 a9 : Option Value} {l : List (Option Value)} {w w2 : Option Value} {v : Int64} (hd : decode y.1 pc = .ok (.lstore 10, 2)) (hp : zm_c1 a9 = true) (k : zA x g y d mc ms Q ce sl (pc + 2) (a0 :: a1 :: a2 :: a3 :: a4 :: a5 :: a6 :: a7 :: a8 :: a9 :: some (.long v) :: none :: l) st M) : zA x g y d mc ms Q ce sl pc (a0 :: a1 :: a2 :: a3 :: a4 :: a5 :: a6 :: a7 :: a8 :: a9 :: w :: w2 :: l) (.long v :: st) M :=
  fun F hn ad H locs ls h1 h2 h3 h4 h5 => lv_lstore F.1 F.2.1 hd (zm_as_has h5) (zm_ltl (i := 11) (by simp)) rfl (fun ls hl => k F hn ad H locs ls h1 h2 h3 h4 (zm_L_of2 (v := .long v) (L := a0 :: a1 :: a2 :: a3 :: a4 :: a5 :: a6 :: a7 :: a8 :: a9 :: w :: w2 :: l) (i := 10) hl (fun j u e hj => by cases e; cases hj; exact zm_c1_of hp)))
theorem zA_aload_10 {a0 a1 a2 a3 a4 a5 a6 a7 a8 a9 : Option Value} {l : List (Option Value)} {v : Nat} (hd : decode y.1 pc = .ok (.aload 10, 2)) (k : zA x g y d mc ms Q ce sl (pc + 2) (a0 :: a1 :: a2 :: a3 :: a4 :: a5 :: a6 :: a7 :: a8 :: a9 :: some (.ref v) :: l) (.ref v :: st) M) : zA x g y d mc ms Q ce sl pc (a0 :: a1 :: a2 :: a3 :: a4 :: a5 :: a6 :: a7 :: a8 :: a9 :: some (.ref v) :: l) st M :=
  fun F hn ad H locs ls h1 h2 h3 h4 h5 => lv_aload F.1 F.2.1 hd (h5.2.2 10 (.ref v) rfl) (k F hn ad H locs ls h1 h2 h3 h4 h5)
theorem zA_astore_10 {a0 a1 a2 a3 a4 a5 a6 a7 a8 a9 : Option Value} {l : List (Option Value)} {w : Option Value} {v : Nat} (hd : decode y.1 pc = .ok (.astore 10, 2)) (hp : zm_c1 a9 = true) (k : zA x g y d mc ms Q ce sl (pc + 2) (a0 :: a1 :: a2 :: a3 :: a4 :: a5 :: a6 :: a7 :: a8 :: a9 :: some (.ref v) :: l) st M) : zA x g y d mc ms Q ce sl pc (a0 :: a1 :: a2 :: a3 :: a4 :: a5 :: a6 :: a7 :: a8 :: a9 :: w :: l) (.ref v :: st) M :=
  fun F hn ad H locs ls h1 h2 h3 h4 h5 => lv_astore F.1 F.2.1 hd (zm_as_has h5) (zm_ltl (i := 10) (by simp)) rfl (fun ls hl => k F hn ad H locs ls h1 h2 h3 h4 (zm_L_of1 (v := .ref v) (L := a0 :: a1 :: a2 :: a3 :: a4 :: a5 :: a6 :: a7 :: a8 :: a9 :: w :: l) (i := 10) hl (fun j u e hj => by cases e; cases hj; exact zm_c1_of hp)))
theorem zA_iinc_10 {a0 a1 a2 a3 a4 a5 a6 a7 a8 a9 : Option Value} {l : List (Option Value)} {a : Int32} {n : Int} {v : Int32} (hd : decode y.1 pc = .ok (.iinc 10 n, 3)) (hv : a + Int32.ofInt n = v) (hp : zm_c1 a9 = true) (k : zA x g y d mc ms Q ce sl (pc + 3) (a0 :: a1 :: a2 :: a3 :: a4 :: a5 :: a6 :: a7 :: a8 :: a9 :: some (.int v) :: l) st M) : zA x g y d mc ms Q ce sl pc (a0 :: a1 :: a2 :: a3 :: a4 :: a5 :: a6 :: a7 :: a8 :: a9 :: some (.int a) :: l) st M := by
  intro F hn ad H locs ls h1 h2 h3 h4 h5
  obtain ⟨kk, hkk⟩ := zm_as_at (L := a0 :: a1 :: a2 :: a3 :: a4 :: a5 :: a6 :: a7 :: a8 :: a9 :: some (.int a) :: l) ad 10 (v := .int a) rfl
  exact lv_iinc F.1 F.2.1 hd (zm_as_has h5) hkk hv (zm_ltl (i := 10) (by simp)) rfl (fun ls hl => k F hn ad H locs ls h1 h2 h3 h4 (zm_L_of1 (v := .int v) (L := a0 :: a1 :: a2 :: a3 :: a4 :: a5 :: a6 :: a7 :: a8 :: a9 :: some (.int a) :: l) (i := 10) hl (fun j u e hj => by cases e; cases hj; exact zm_c1_of hp)))
theorem zA_iload_11 {a0 a1 a2 a3 a4 a5 a6 a7 a8 a9 a10 : Option Value} {l : List (Option Value)} {v : Int32} (hd : decode y.1 pc = .ok (.iload 11, 2)) (k : zA x g y d mc ms Q ce sl (pc + 2) (a0 :: a1 :: a2 :: a3 :: a4 :: a5 :: a6 :: a7 :: a8 :: a9 :: a10 :: some (.int v) :: l) (.int v :: st) M) : zA x g y d mc ms Q ce sl pc (a0 :: a1 :: a2 :: a3 :: a4 :: a5 :: a6 :: a7 :: a8 :: a9 :: a10 :: some (.int v) :: l) st M :=
  fun F hn ad H locs ls h1 h2 h3 h4 h5 => lv_iload F.1 F.2.1 hd (h5.2.2 11 (.int v) rfl) (k F hn ad H locs ls h1 h2 h3 h4 h5)
theorem zA_istore_11 {a0 a1 a2 a3 a4 a5 a6 a7 a8 a9 a10 : Option Value} {l : List (Option Value)} {w : Option Value} {v : Int32} (hd : decode y.1 pc = .ok (.istore 11, 2)) (hp : zm_c1 a10 = true) (k : zA x g y d mc ms Q ce sl (pc + 2) (a0 :: a1 :: a2 :: a3 :: a4 :: a5 :: a6 :: a7 :: a8 :: a9 :: a10 :: some (.int v) :: l) st M) : zA x g y d mc ms Q ce sl pc (a0 :: a1 :: a2 :: a3 :: a4 :: a5 :: a6 :: a7 :: a8 :: a9 :: a10 :: w :: l) (.int v :: st) M :=
  fun F hn ad H locs ls h1 h2 h3 h4 h5 => lv_istore F.1 F.2.1 hd (zm_as_has h5) (zm_ltl (i := 11) (by simp)) rfl (fun ls hl => k F hn ad H locs ls h1 h2 h3 h4 (zm_L_of1 (v := .int v) (L := a0 :: a1 :: a2 :: a3 :: a4 :: a5 :: a6 :: a7 :: a8 :: a9 :: a10 :: w :: l) (i := 11) hl (fun j u e hj => by cases e; cases hj; exact zm_c1_of hp)))
theorem zA_lload_11 {a0 a1 a2 a3 a4 a5 a6 a7 a8 a9 a10 : Option Value} {l : List (Option Value)} {v : Int64} (hd : decode y.1 pc = .ok (.lload 11, 2)) (k : zA x g y d mc ms Q ce sl (pc + 2) (a0 :: a1 :: a2 :: a3 :: a4 :: a5 :: a6 :: a7 :: a8 :: a9 :: a10 :: some (.long v) :: l) (.long v :: st) M) : zA x g y d mc ms Q ce sl pc (a0 :: a1 :: a2 :: a3 :: a4 :: a5 :: a6 :: a7 :: a8 :: a9 :: a10 :: some (.long v) :: l) st M :=
  fun F hn ad H locs ls h1 h2 h3 h4 h5 => lv_lload F.1 F.2.1 hd (h5.2.2 11 (.long v) rfl) (k F hn ad H locs ls h1 h2 h3 h4 h5)
theorem zA_lstore_11 {a0 a1 a2 a3 a4 a5 a6 a7 a8 a9 a10 : Option Value} {l : List (Option Value)} {w w2 : Option Value} {v : Int64} (hd : decode y.1 pc = .ok (.lstore 11, 2)) (hp : zm_c1 a10 = true) (k : zA x g y d mc ms Q ce sl (pc + 2) (a0 :: a1 :: a2 :: a3 :: a4 :: a5 :: a6 :: a7 :: a8 :: a9 :: a10 :: some (.long v) :: none :: l) st M) : zA x g y d mc ms Q ce sl pc (a0 :: a1 :: a2 :: a3 :: a4 :: a5 :: a6 :: a7 :: a8 :: a9 :: a10 :: w :: w2 :: l) (.long v :: st) M :=
  fun F hn ad H locs ls h1 h2 h3 h4 h5 => lv_lstore F.1 F.2.1 hd (zm_as_has h5) (zm_ltl (i := 12) (by simp)) rfl (fun ls hl => k F hn ad H locs ls h1 h2 h3 h4 (zm_L_of2 (v := .long v) (L := a0 :: a1 :: a2 :: a3 :: a4 :: a5 :: a6 :: a7 :: a8 :: a9 :: a10 :: w :: w2 :: l) (i := 11) hl (fun j u e hj => by cases e; cases hj; exact zm_c1_of hp)))
theorem zA_aload_11 {a0 a1 a2 a3 a4 a5 a6 a7 a8 a9 a10 : Option Value} {l : List (Option Value)} {v : Nat} (hd : decode y.1 pc = .ok (.aload 11, 2)) (k : zA x g y d mc ms Q ce sl (pc + 2) (a0 :: a1 :: a2 :: a3 :: a4 :: a5 :: a6 :: a7 :: a8 :: a9 :: a10 :: some (.ref v) :: l) (.ref v :: st) M) : zA x g y d mc ms Q ce sl pc (a0 :: a1 :: a2 :: a3 :: a4 :: a5 :: a6 :: a7 :: a8 :: a9 :: a10 :: some (.ref v) :: l) st M :=
  fun F hn ad H locs ls h1 h2 h3 h4 h5 => lv_aload F.1 F.2.1 hd (h5.2.2 11 (.ref v) rfl) (k F hn ad H locs ls h1 h2 h3 h4 h5)
theorem zA_astore_11 {a0 a1 a2 a3 a4 a5 a6 a7 a8 a9 a10 : Option Value} {l : List (Option Value)} {w : Option Value} {v : Nat} (hd : decode y.1 pc = .ok (.astore 11, 2)) (hp : zm_c1 a10 = true) (k : zA x g y d mc ms Q ce sl (pc + 2) (a0 :: a1 :: a2 :: a3 :: a4 :: a5 :: a6 :: a7 :: a8 :: a9 :: a10 :: some (.ref v) :: l) st M) : zA x g y d mc ms Q ce sl pc (a0 :: a1 :: a2 :: a3 :: a4 :: a5 :: a6 :: a7 :: a8 :: a9 :: a10 :: w :: l) (.ref v :: st) M :=
  fun F hn ad H locs ls h1 h2 h3 h4 h5 => lv_astore F.1 F.2.1 hd (zm_as_has h5) (zm_ltl (i := 11) (by simp)) rfl (fun ls hl => k F hn ad H locs ls h1 h2 h3 h4 (zm_L_of1 (v := .ref v) (L := a0 :: a1 :: a2 :: a3 :: a4 :: a5 :: a6 :: a7 :: a8 :: a9 :: a10 :: w :: l) (i := 11) hl (fun j u e hj => by cases e; cases hj; exact zm_c1_of hp)))
theorem zA_iinc_11 {a0 a1 a2 a3 a4 a5 a6 a7 a8 a9 a10 : Option Value} {l : List (Option Value)} {a : Int32} {n : Int} {v : Int32} (hd : decode y.1 pc = .ok (.iinc 11 n, 3)) (hv : a + Int32.ofInt n = v) (hp : zm_c1 a10 = true) (k : zA x g y d mc ms Q ce sl (pc + 3) (a0 :: a1 :: a2 :: a3 :: a4 :: a5 :: a6 :: a7 :: a8 :: a9 :: a10 :: some (.int v) :: l) st M) : zA x g y d mc ms Q ce sl pc (a0 :: a1 :: a2 :: a3 :: a4 :: a5 :: a6 :: a7 :: a8 :: a9 :: a10 :: some (.int a) :: l) st M := by
  intro F hn ad H locs ls h1 h2 h3 h4 h5
  obtain ⟨kk, hkk⟩ := zm_as_at (L := a0 :: a1 :: a2 :: a3 :: a4 :: a5 :: a6 :: a7 :: a8 :: a9 :: a10 :: some (.int a) :: l) ad 11 (v := .int a) rfl
  exact lv_iinc F.1 F.2.1 hd (zm_as_has h5) hkk hv (zm_ltl (i := 11) (by simp)) rfl (fun ls hl => k F hn ad H locs ls h1 h2 h3 h4 (zm_L_of1 (v := .int v) (L := a0 :: a1 :: a2 :: a3 :: a4 :: a5 :: a6 :: a7 :: a8 :: a9 :: a10 :: some (.int a) :: l) (i := 11) hl (fun j u e hj => by cases e; cases hj; exact zm_c1_of hp)))
theorem zA_iload_12 {a0 a1 a2 a3 a4 a5 a6 a7 a8 a9 a10 a11 : Option Value} {l : List (Option Value)} {v : Int32} (hd : decode y.1 pc = .ok (.iload 12, 2)) (k : zA x g y d mc ms Q ce sl (pc + 2) (a0 :: a1 :: a2 :: a3 :: a4 :: a5 :: a6 :: a7 :: a8 :: a9 :: a10 :: a11 :: some (.int v) :: l) (.int v :: st) M) : zA x g y d mc ms Q ce sl pc (a0 :: a1 :: a2 :: a3 :: a4 :: a5 :: a6 :: a7 :: a8 :: a9 :: a10 :: a11 :: some (.int v) :: l) st M :=
  fun F hn ad H locs ls h1 h2 h3 h4 h5 => lv_iload F.1 F.2.1 hd (h5.2.2 12 (.int v) rfl) (k F hn ad H locs ls h1 h2 h3 h4 h5)
theorem zA_istore_12 {a0 a1 a2 a3 a4 a5 a6 a7 a8 a9 a10 a11 : Option Value} {l : List (Option Value)} {w : Option Value} {v : Int32} (hd : decode y.1 pc = .ok (.istore 12, 2)) (hp : zm_c1 a11 = true) (k : zA x g y d mc ms Q ce sl (pc + 2) (a0 :: a1 :: a2 :: a3 :: a4 :: a5 :: a6 :: a7 :: a8 :: a9 :: a10 :: a11 :: some (.int v) :: l) st M) : zA x g y d mc ms Q ce sl pc (a0 :: a1 :: a2 :: a3 :: a4 :: a5 :: a6 :: a7 :: a8 :: a9 :: a10 :: a11 :: w :: l) (.int v :: st) M :=
  fun F hn ad H locs ls h1 h2 h3 h4 h5 => lv_istore F.1 F.2.1 hd (zm_as_has h5) (zm_ltl (i := 12) (by simp)) rfl (fun ls hl => k F hn ad H locs ls h1 h2 h3 h4 (zm_L_of1 (v := .int v) (L := a0 :: a1 :: a2 :: a3 :: a4 :: a5 :: a6 :: a7 :: a8 :: a9 :: a10 :: a11 :: w :: l) (i := 12) hl (fun j u e hj => by cases e; cases hj; exact zm_c1_of hp)))
theorem zA_lload_12 {a0 a1 a2 a3 a4 a5 a6 a7 a8 a9 a10 a11 : Option Value} {l : List (Option Value)} {v : Int64} (hd : decode y.1 pc = .ok (.lload 12, 2)) (k : zA x g y d mc ms Q ce sl (pc + 2) (a0 :: a1 :: a2 :: a3 :: a4 :: a5 :: a6 :: a7 :: a8 :: a9 :: a10 :: a11 :: some (.long v) :: l) (.long v :: st) M) : zA x g y d mc ms Q ce sl pc (a0 :: a1 :: a2 :: a3 :: a4 :: a5 :: a6 :: a7 :: a8 :: a9 :: a10 :: a11 :: some (.long v) :: l) st M :=
  fun F hn ad H locs ls h1 h2 h3 h4 h5 => lv_lload F.1 F.2.1 hd (h5.2.2 12 (.long v) rfl) (k F hn ad H locs ls h1 h2 h3 h4 h5)
theorem zA_lstore_12 {a0 a1 a2 a3 a4 a5 a6 a7 a8 a9 a10 a11 : Option Value} {l : List (Option Value)} {w w2 : Option Value} {v : Int64} (hd : decode y.1 pc = .ok (.lstore 12, 2)) (hp : zm_c1 a11 = true) (k : zA x g y d mc ms Q ce sl (pc + 2) (a0 :: a1 :: a2 :: a3 :: a4 :: a5 :: a6 :: a7 :: a8 :: a9 :: a10 :: a11 :: some (.long v) :: none :: l) st M) : zA x g y d mc ms Q ce sl pc (a0 :: a1 :: a2 :: a3 :: a4 :: a5 :: a6 :: a7 :: a8 :: a9 :: a10 :: a11 :: w :: w2 :: l) (.long v :: st) M :=
  fun F hn ad H locs ls h1 h2 h3 h4 h5 => lv_lstore F.1 F.2.1 hd (zm_as_has h5) (zm_ltl (i := 13) (by simp)) rfl (fun ls hl => k F hn ad H locs ls h1 h2 h3 h4 (zm_L_of2 (v := .long v) (L := a0 :: a1 :: a2 :: a3 :: a4 :: a5 :: a6 :: a7 :: a8 :: a9 :: a10 :: a11 :: w :: w2 :: l) (i := 12) hl (fun j u e hj => by cases e; cases hj; exact zm_c1_of hp)))
theorem zA_aload_12 {a0 a1 a2 a3 a4 a5 a6 a7 a8 a9 a10 a11 : Option Value} {l : List (Option Value)} {v : Nat} (hd : decode y.1 pc = .ok (.aload 12, 2)) (k : zA x g y d mc ms Q ce sl (pc + 2) (a0 :: a1 :: a2 :: a3 :: a4 :: a5 :: a6 :: a7 :: a8 :: a9 :: a10 :: a11 :: some (.ref v) :: l) (.ref v :: st) M) : zA x g y d mc ms Q ce sl pc (a0 :: a1 :: a2 :: a3 :: a4 :: a5 :: a6 :: a7 :: a8 :: a9 :: a10 :: a11 :: some (.ref v) :: l) st M :=
  fun F hn ad H locs ls h1 h2 h3 h4 h5 => lv_aload F.1 F.2.1 hd (h5.2.2 12 (.ref v) rfl) (k F hn ad H locs ls h1 h2 h3 h4 h5)
theorem zA_astore_12 {a0 a1 a2 a3 a4 a5 a6 a7 a8 a9 a10 a11 : Option Value} {l : List (Option Value)} {w : Option Value} {v : Nat} (hd : decode y.1 pc = .ok (.astore 12, 2)) (hp : zm_c1 a11 = true) (k : zA x g y d mc ms Q ce sl (pc + 2) (a0 :: a1 :: a2 :: a3 :: a4 :: a5 :: a6 :: a7 :: a8 :: a9 :: a10 :: a11 :: some (.ref v) :: l) st M) : zA x g y d mc ms Q ce sl pc (a0 :: a1 :: a2 :: a3 :: a4 :: a5 :: a6 :: a7 :: a8 :: a9 :: a10 :: a11 :: w :: l) (.ref v :: st) M :=
  fun F hn ad H locs ls h1 h2 h3 h4 h5 => lv_astore F.1 F.2.1 hd (zm_as_has h5) (zm_ltl (i := 12) (by simp)) rfl (fun ls hl => k F hn ad H locs ls h1 h2 h3 h4 (zm_L_of1 (v := .ref v) (L := a0 :: a1 :: a2 :: a3 :: a4 :: a5 :: a6 :: a7 :: a8 :: a9 :: a10 :: a11 :: w :: l) (i := 12) hl (fun j u e hj => by cases e; cases hj; exact zm_c1_of hp)))
theorem zA_iinc_12 {a0 a1 a2 a3 a4 a5 a6 a7 a8 a9 a10 a11 : Option Value} {l : List (Option Value)} {a : Int32} {n : Int} {v : Int32} (hd : decode y.1 pc = .ok (.iinc 12 n, 3)) (hv : a + Int32.ofInt n = v) (hp : zm_c1 a11 = true) (k : zA x g y d mc ms Q ce sl (pc + 3) (a0 :: a1 :: a2 :: a3 :: a4 :: a5 :: a6 :: a7 :: a8 :: a9 :: a10 :: a11 :: some (.int v) :: l) st M) : zA x g y d mc ms Q ce sl pc (a0 :: a1 :: a2 :: a3 :: a4 :: a5 :: a6 :: a7 :: a8 :: a9 :: a10 :: a11 :: some (.int a) :: l) st M := by
  intro F hn ad H locs ls h1 h2 h3 h4 h5
  obtain ⟨kk, hkk⟩ := zm_as_at (L := a0 :: a1 :: a2 :: a3 :: a4 :: a5 :: a6 :: a7 :: a8 :: a9 :: a10 :: a11 :: some (.int a) :: l) ad 12 (v := .int a) rfl
  exact lv_iinc F.1 F.2.1 hd (zm_as_has h5) hkk hv (zm_ltl (i := 12) (by simp)) rfl (fun ls hl => k F hn ad H locs ls h1 h2 h3 h4 (zm_L_of1 (v := .int v) (L := a0 :: a1 :: a2 :: a3 :: a4 :: a5 :: a6 :: a7 :: a8 :: a9 :: a10 :: a11 :: some (.int a) :: l) (i := 12) hl (fun j u e hj => by cases e; cases hj; exact zm_c1_of hp)))
theorem zA_iload_13 {a0 a1 a2 a3 a4 a5 a6 a7 a8 a9 a10 a11 a12 : Option Value} {l : List (Option Value)} {v : Int32} (hd : decode y.1 pc = .ok (.iload 13, 2)) (k : zA x g y d mc ms Q ce sl (pc + 2) (a0 :: a1 :: a2 :: a3 :: a4 :: a5 :: a6 :: a7 :: a8 :: a9 :: a10 :: a11 :: a12 :: some (.int v) :: l) (.int v :: st) M) : zA x g y d mc ms Q ce sl pc (a0 :: a1 :: a2 :: a3 :: a4 :: a5 :: a6 :: a7 :: a8 :: a9 :: a10 :: a11 :: a12 :: some (.int v) :: l) st M :=
  fun F hn ad H locs ls h1 h2 h3 h4 h5 => lv_iload F.1 F.2.1 hd (h5.2.2 13 (.int v) rfl) (k F hn ad H locs ls h1 h2 h3 h4 h5)
theorem zA_istore_13 {a0 a1 a2 a3 a4 a5 a6 a7 a8 a9 a10 a11 a12 : Option Value} {l : List (Option Value)} {w : Option Value} {v : Int32} (hd : decode y.1 pc = .ok (.istore 13, 2)) (hp : zm_c1 a12 = true) (k : zA x g y d mc ms Q ce sl (pc + 2) (a0 :: a1 :: a2 :: a3 :: a4 :: a5 :: a6 :: a7 :: a8 :: a9 :: a10 :: a11 :: a12 :: some (.int v) :: l) st M) : zA x g y d mc ms Q ce sl pc (a0 :: a1 :: a2 :: a3 :: a4 :: a5 :: a6 :: a7 :: a8 :: a9 :: a10 :: a11 :: a12 :: w :: l) (.int v :: st) M :=
  fun F hn ad H locs ls h1 h2 h3 h4 h5 => lv_istore F.1 F.2.1 hd (zm_as_has h5) (zm_ltl (i := 13) (by simp)) rfl (fun ls hl => k F hn ad H locs ls h1 h2 h3 h4 (zm_L_of1 (v := .int v) (L := a0 :: a1 :: a2 :: a3 :: a4 :: a5 :: a6 :: a7 :: a8 :: a9 :: a10 :: a11 :: a12 :: w :: l) (i := 13) hl (fun j u e hj => by cases e; cases hj; exact zm_c1_of hp)))
theorem zA_lload_13 {a0 a1 a2 a3 a4 a5 a6 a7 a8 a9 a10 a11 a12 : Option Value} {l : List (Option Value)} {v : Int64} (hd : decode y.1 pc = .ok (.lload 13, 2)) (k : zA x g y d mc ms Q ce sl (pc + 2) (a0 :: a1 :: a2 :: a3 :: a4 :: a5 :: a6 :: a7 :: a8 :: a9 :: a10 :: a11 :: a12 :: some (.long v) :: l) (.long v :: st) M) : zA x g y d mc ms Q ce sl pc (a0 :: a1 :: a2 :: a3 :: a4 :: a5 :: a6 :: a7 :: a8 :: a9 :: a10 :: a11 :: a12 :: some (.long v) :: l) st M :=
  fun F hn ad H locs ls h1 h2 h3 h4 h5 => lv_lload F.1 F.2.1 hd (h5.2.2 13 (.long v) rfl) (k F hn ad H locs ls h1 h2 h3 h4 h5)
theorem zA_lstore_13 {a0 a1 a2 a3 a4 a5 a6 a7 a8 a9 a10 a11 a12 : Option Value} {l : List (Option Value)} {w w2 : Option Value} {v : Int64} (hd : decode y.1 pc = .ok (.lstore 13, 2)) (hp : zm_c1 a12 = true) (k : zA x g y d mc ms Q ce sl (pc + 2) (a0 :: a1 :: a2 :: a3 :: a4 :: a5 :: a6 :: a7 :: a8 :: a9 :: a10 :: a11 :: a12 :: some (.long v) :: none :: l) st M) : zA x g y d mc ms Q ce sl pc (a0 :: a1 :: a2 :: a3 :: a4 :: a5 :: a6 :: a7 :: a8 :: a9 :: a10 :: a11 :: a12 :: w :: w2 :: l) (.long v :: st) M :=
  fun F hn ad H locs ls h1 h2 h3 h4 h5 => lv_lstore F.1 F.2.1 hd (zm_as_has h5) (zm_ltl (i := 14) (by simp)) rfl (fun ls hl => k F hn ad H locs ls h1 h2 h3 h4 (zm_L_of2 (v := .long v) (L := a0 :: a1 :: a2 :: a3 :: a4 :: a5 :: a6 :: a7 :: a8 :: a9 :: a10 :: a11 :: a12 :: w :: w2 :: l) (i := 13) hl (fun j u e hj => by cases e; cases hj; exact zm_c1_of hp)))
theorem zA_aload_13 {a0 a1 a2 a3 a4 a5 a6 a7 a8 a9 a10 a11 a12 : Option Value} {l : List (Option Value)} {v : Nat} (hd : decode y.1 pc = .ok (.aload 13, 2)) (k : zA x g y d mc ms Q ce sl (pc + 2) (a0 :: a1 :: a2 :: a3 :: a4 :: a5 :: a6 :: a7 :: a8 :: a9 :: a10 :: a11 :: a12 :: some (.ref v) :: l) (.ref v :: st) M) : zA x g y d mc ms Q ce sl pc (a0 :: a1 :: a2 :: a3 :: a4 :: a5 :: a6 :: a7 :: a8 :: a9 :: a10 :: a11 :: a12 :: some (.ref v) :: l) st M :=
  fun F hn ad H locs ls h1 h2 h3 h4 h5 => lv_aload F.1 F.2.1 hd (h5.2.2 13 (.ref v) rfl) (k F hn ad H locs ls h1 h2 h3 h4 h5)
theorem zA_astore_13 {a0 a1 a2 a3 a4 a5 a6 a7 a8 a9 a10 a11 a12 : Option Value} {l : List (Option Value)} {w : Option Value} {v : Nat} (hd : decode y.1 pc = .ok (.astore 13, 2)) (hp : zm_c1 a12 = true) (k : zA x g y d mc ms Q ce sl (pc + 2) (a0 :: a1 :: a2 :: a3 :: a4 :: a5 :: a6 :: a7 :: a8 :: a9 :: a10 :: a11 :: a12 :: some (.ref v) :: l) st M) : zA x g y d mc ms Q ce sl pc (a0 :: a1 :: a2 :: a3 :: a4 :: a5 :: a6 :: a7 :: a8 :: a9 :: a10 :: a11 :: a12 :: w :: l) (.ref v :: st) M :=
  fun F hn ad H locs ls h1 h2 h3 h4 h5 => lv_astore F.1 F.2.1 hd (zm_as_has h5) (zm_ltl (i := 13) (by simp)) rfl (fun ls hl => k F hn ad H locs ls h1 h2 h3 h4 (zm_L_of1 (v := .ref v) (L := a0 :: a1 :: a2 :: a3 :: a4 :: a5 :: a6 :: a7 :: a8 :: a9 :: a10 :: a11 :: a12 :: w :: l) (i := 13) hl (fun j u e hj => by cases e; cases hj; exact zm_c1_of hp)))
theorem zA_iinc_13 {a0 a1 a2 a3 a4 a5 a6 a7 a8 a9 a10 a11 a12 : Option Value} {l : List (Option Value)} {a : Int32} {n : Int} {v : Int32} (hd : decode y.1 pc = .ok (.iinc 13 n, 3)) (hv : a + Int32.ofInt n = v) (hp : zm_c1 a12 = true) (k : zA x g y d mc ms Q ce sl (pc + 3) (a0 :: a1 :: a2 :: a3 :: a4 :: a5 :: a6 :: a7 :: a8 :: a9 :: a10 :: a11 :: a12 :: some (.int v) :: l) st M) : zA x g y d mc ms Q ce sl pc (a0 :: a1 :: a2 :: a3 :: a4 :: a5 :: a6 :: a7 :: a8 :: a9 :: a10 :: a11 :: a12 :: some (.int a) :: l) st M := by
  intro F hn ad H locs ls h1 h2 h3 h4 h5
  obtain ⟨kk, hkk⟩ := zm_as_at (L := a0 :: a1 :: a2 :: a3 :: a4 :: a5 :: a6 :: a7 :: a8 :: a9 :: a10 :: a11 :: a12 :: some (.int a) :: l) ad 13 (v := .int a) rfl
  exact lv_iinc F.1 F.2.1 hd (zm_as_has h5) hkk hv (zm_ltl (i := 13) (by simp)) rfl (fun ls hl => k F hn ad H locs ls h1 h2 h3 h4 (zm_L_of1 (v := .int v) (L := a0 :: a1 :: a2 :: a3 :: a4 :: a5 :: a6 :: a7 :: a8 :: a9 :: a10 :: a11 :: a12 :: some (.int a) :: l) (i := 13) hl (fun j u e hj => by cases e; cases hj; exact zm_c1_of hp)))
theorem zA_iload_14 {a0 a1 a2 a3 a4 a5 a6 a7 a8 a9 a10 a11 a12 a13 : Option Value} {l : List (Option Value)} {v : Int32} (hd : decode y.1 pc = .ok (.iload 14, 2)) (k : zA x g y d mc ms Q ce sl (pc + 2) (a0 :: a1 :: a2 :: a3 :: a4 :: a5 :: a6 :: a7 :: a8 :: a9 :: a10 :: a11 :: a12 :: a13 :: some (.int v) :: l) (.int v :: st) M) : zA x g y d mc ms Q ce sl pc (a0 :: a1 :: a2 :: a3 :: a4 :: a5 :: a6 :: a7 :: a8 :: a9 :: a10 :: a11 :: a12 :: a13 :: some (.int v) :: l) st M :=
  fun F hn ad H locs ls h1 h2 h3 h4 h5 => lv_iload F.1 F.2.1 hd (h5.2.2 14 (.int v) rfl) (k F hn ad H locs ls h1 h2 h3 h4 h5)
theorem zA_istore_14 {a0 a1 a2 a3 a4 a5 a6 a7 a8 a9 a10 a11 a12 a13 : Option Value} {l : List (Option Value)} {w : Option Value} {v : Int32} (hd : decode y.1 pc = .ok (.istore 14, 2)) (hp : zm_c1 a13 = true) (k : zA x g y d mc ms Q ce sl (pc + 2) (a0 :: a1 :: a2 :: a3 :: a4 :: a5 :: a6 :: a7 :: a8 :: a9 :: a10 :: a11 :: a12 :: a13 :: some (.int v) :: l) st M) : zA x g y d mc ms Q ce sl pc (a0 :: a1 :: a2 :: a3 :: a4 :: a5 :: a6 :: a7 :: a8 :: a9 :: a10 :: a11 :: a12 :: a13 :: w :: l) (.int v :: st) M :=
  fun F hn ad H locs ls h1 h2 h3 h4 h5 => lv_istore F.1 F.2.1 hd (zm_as_has h5) (zm_ltl (i := 14) (by simp)) rfl (fun ls hl => k F hn ad H locs ls h1 h2 h3 h4 (zm_L_of1 (v := .int v) (L := a0 :: a1 :: a2 :: a3 :: a4 :: a5 :: a6 :: a7 :: a8 :: a9 :: a10 :: a11 :: a12 :: a13 :: w :: l) (i := 14) hl (fun j u e hj => by cases e; cases hj; exact zm_c1_of hp)))
theorem zA_lload_14 {a0 a1 a2 a3 a4 a5 a6 a7 a8 a9 a10 a11 a12 a13 : Option Value} {l : List (Option Value)} {v : Int64} (hd : decode y.1 pc = .ok (.lload 14, 2)) (k : zA x g y d mc ms Q ce sl (pc + 2) (a0 :: a1 :: a2 :: a3 :: a4 :: a5 :: a6 :: a7 :: a8 :: a9 :: a10 :: a11 :: a12 :: a13 :: some (.long v) :: l) (.long v :: st) M) : zA x g y d mc ms Q ce sl pc (a0 :: a1 :: a2 :: a3 :: a4 :: a5 :: a6 :: a7 :: a8 :: a9 :: a10 :: a11 :: a12 :: a13 :: some (.long v) :: l) st M :=
  fun F hn ad H locs ls h1 h2 h3 h4 h5 => lv_lload F.1 F.2.1 hd (h5.2.2 14 (.long v) rfl) (k F hn ad H locs ls h1 h2 h3 h4 h5)
theorem zA_lstore_14 {a0 a1 a2 a3 a4 a5 a6 a7 a8 a9 a10 a11 a12 a13 : Option Value} {l : List (Option Value)} {w w2 : Option Value} {v : Int64} (hd : decode y.1 pc = .ok (.lstore 14, 2)) (hp : zm_c1 a13 = true) (k : zA x g y d mc ms Q ce sl (pc + 2) (a0 :: a1 :: a2 :: a3 :: a4 :: a5 :: a6 :: a7 :: a8 :: a9 :: a10 :: a11 :: a12 :: a13 :: some (.long v) :: none :: l) st M) : zA x g y d mc ms Q ce sl pc (a0 :: a1 :: a2 :: a3 :: a4 :: a5 :: a6 :: a7 :: a8 :: a9 :: a10 :: a11 :: a12 :: a13 :: w :: w2 :: l) (.long v :: st) M :=
  fun F hn ad H locs ls h1 h2 h3 h4 h5 => lv_lstore F.1 F.2.1 hd (zm_as_has h5) (zm_ltl (i := 15) (by simp)) rfl (fun ls hl => k F hn ad H locs ls h1 h2 h3 h4 (zm_L_of2 (v := .long v) (L := a0 :: a1 :: a2 :: a3 :: a4 :: a5 :: a6 :: a7 :: a8 :: a9 :: a10 :: a11 :: a12 :: a13 :: w :: w2 :: l) (i := 14) hl (fun j u e hj => by cases e; cases hj; exact zm_c1_of hp)))
theorem zA_aload_14 {a0 a1 a2 a3 a4 a5 a6 a7 a8 a9 a10 a11 a12 a13 : Option Value} {l : List (Option Value)} {v : Nat} (hd : decode y.1 pc = .ok (.aload 14, 2)) (k : zA x g y d mc ms Q ce sl (pc + 2) (a0 :: a1 :: a2 :: a3 :: a4 :: a5 :: a6 :: a7 :: a8 :: a9 :: a10 :: a11 :: a12 :: a13 :: some (.ref v) :: l) (.ref v :: st) M) : zA x g y d mc ms Q ce sl pc (a0 :: a1 :: a2 :: a3 :: a4 :: a5 :: a6 :: a7 :: a8 :: a9 :: a10 :: a11 :: a12 :: a13 :: some (.ref v) :: l) st M :=
  fun F hn ad H locs ls h1 h2 h3 h4 h5 => lv_aload F.1 F.2.1 hd (h5.2.2 14 (.ref v) rfl) (k F hn ad H locs ls h1 h2 h3 h4 h5)
theorem zA_astore_14 {a0 a1 a2 a3 a4 a5 a6 a7 a8 a9 a10 a11 a12 a13 : Option Value} {l : List (Option Value)} {w : Option Value} {v : Nat} (hd : decode y.1 pc = .ok (.astore 14, 2)) (hp : zm_c1 a13 = true) (k : zA x g y d mc ms Q ce sl (pc + 2) (a0 :: a1 :: a2 :: a3 :: a4 :: a5 :: a6 :: a7 :: a8 :: a9 :: a10 :: a11 :: a12 :: a13 :: some (.ref v) :: l) st M) : zA x g y d mc ms Q ce sl pc (a0 :: a1 :: a2 :: a3 :: a4 :: a5 :: a6 :: a7 :: a8 :: a9 :: a10 :: a11 :: a12 :: a13 :: w :: l) (.ref v :: st) M :=
  fun F hn ad H locs ls h1 h2 h3 h4 h5 => lv_astore F.1 F.2.1 hd (zm_as_has h5) (zm_ltl (i := 14) (by simp)) rfl (fun ls hl => k F hn ad H locs ls h1 h2 h3 h4 (zm_L_of1 (v := .ref v) (L := a0 :: a1 :: a2 :: a3 :: a4 :: a5 :: a6 :: a7 :: a8 :: a9 :: a10 :: a11 :: a12 :: a13 :: w :: l) (i := 14) hl (fun j u e hj => by cases e; cases hj; exact zm_c1_of hp)))
theorem zA_iinc_14 {a0 a1 a2 a3 a4 a5 a6 a7 a8 a9 a10 a11 a12 a13 : Option Value} {l : List (Option Value)} {a : Int32} {n : Int} {v : Int32} (hd : decode y.1 pc = .ok (.iinc 14 n, 3)) (hv : a + Int32.ofInt n = v) (hp : zm_c1 a13 = true) (k : zA x g y d mc ms Q ce sl (pc + 3) (a0 :: a1 :: a2 :: a3 :: a4 :: a5 :: a6 :: a7 :: a8 :: a9 :: a10 :: a11 :: a12 :: a13 :: some (.int v) :: l) st M) : zA x g y d mc ms Q ce sl pc (a0 :: a1 :: a2 :: a3 :: a4 :: a5 :: a6 :: a7 :: a8 :: a9 :: a10 :: a11 :: a12 :: a13 :: some (.int a) :: l) st M := by
  intro F hn ad H locs ls h1 h2 h3 h4 h5
  obtain ⟨kk, hkk⟩ := zm_as_at (L := a0 :: a1 :: a2 :: a3 :: a4 :: a5 :: a6 :: a7 :: a8 :: a9 :: a10 :: a11 :: a12 :: a13 :: some (.int a) :: l) ad 14 (v := .int a) rfl
  exact lv_iinc F.1 F.2.1 hd (zm_as_has h5) hkk hv (zm_ltl (i := 14) (by simp)) rfl (fun ls hl => k F hn ad H locs ls h1 h2 h3 h4 (zm_L_of1 (v := .int v) (L := a0 :: a1 :: a2 :: a3 :: a4 :: a5 :: a6 :: a7 :: a8 :: a9 :: a10 :: a11 :: a12 :: a13 :: some (.int a) :: l) (i := 14) hl (fun j u e hj => by cases e; cases hj; exact zm_c1_of hp)))
theorem zA_iload_15 {a0 a1 a2 a3 a4 a5 a6 a7 a8 a9 a10 a11 a12 a13 a14 : Option Value} {l : List (Option Value)} {v : Int32} (hd : decode y.1 pc = .ok (.iload 15, 2)) (k : zA x g y d mc ms Q ce sl (pc + 2) (a0 :: a1 :: a2 :: a3 :: a4 :: a5 :: a6 :: a7 :: a8 :: a9 :: a10 :: a11 :: a12 :: a13 :: a14 :: some (.int v) :: l) (.int v :: st) M) : zA x g y d mc ms Q ce sl pc (a0 :: a1 :: a2 :: a3 :: a4 :: a5 :: a6 :: a7 :: a8 :: a9 :: a10 :: a11 :: a12 :: a13 :: a14 :: some (.int v) :: l) st M :=
  fun F hn ad H locs ls h1 h2 h3 h4 h5 => lv_iload F.1 F.2.1 hd (h5.2.2 15 (.int v) rfl) (k F hn ad H locs ls h1 h2 h3 h4 h5)
theorem zA_istore_15 {a0 a1 a2 a3 a4 a5 a6 a7 a8 a9 a10 a11 a12 a13 a14 : Option Value} {l : List (Option Value)} {w : Option Value} {v : Int32} (hd : decode y.1 pc = .ok (.istore 15, 2)) (hp : zm_c1 a14 = true) (k : zA x g y d mc ms Q ce sl (pc + 2) (a0 :: a1 :: a2 :: a3 :: a4 :: a5 :: a6 :: a7 :: a8 :: a9 :: a10 :: a11 :: a12 :: a13 :: a14 :: some (.int v) :: l) st M) : zA x g y d mc ms Q ce sl pc (a0 :: a1 :: a2 :: a3 :: a4 :: a5 :: a6 :: a7 :: a8 :: a9 :: a10 :: a11 :: a12 :: a13 :: a14 :: w :: l) (.int v :: st) M :=
  fun F hn ad H locs ls h1 h2 h3 h4 h5 => lv_istore F.1 F.2.1 hd (zm_as_has h5) (zm_ltl (i := 15) (by simp)) rfl (fun ls hl => k F hn ad H locs ls h1 h2 h3 h4 (zm_L_of1 (v := .int v) (L := a0 :: a1 :: a2 :: a3 :: a4 :: a5 :: a6 :: a7 :: a8 :: a9 :: a10 :: a11 :: a12 :: a13 :: a14 :: w :: l) (i := 15) hl (fun j u e hj => by cases e; cases hj; exact zm_c1_of hp)))
theorem zA_lload_15 {a0 a1 a2 a3 a4 a5 a6 a7 a8 a9 a10 a11 a12 a13 a14 : Option Value} {l : List (Option Value)} {v : Int64} (hd : decode y.1 pc = .ok (.lload 15, 2)) (k : zA x g y d mc ms Q ce sl (pc + 2) (a0 :: a1 :: a2 :: a3 :: a4 :: a5 :: a6 :: a7 :: a8 :: a9 :: a10 :: a11 :: a12 :: a13 :: a14 :: some (.long v) :: l) (.long v :: st) M) : zA x g y d mc ms Q ce sl pc (a0 :: a1 :: a2 :: a3 :: a4 :: a5 :: a6 :: a7 :: a8 :: a9 :: a10 :: a11 :: a12 :: a13 :: a14 :: some (.long v) :: l) st M :=
  fun F hn ad H locs ls h1 h2 h3 h4 h5 => lv_lload F.1 F.2.1 hd (h5.2.2 15 (.long v) rfl) (k F hn ad H locs ls h1 h2 h3 h4 h5)
theorem zA_lstore_15 {a0 a1 a2 a3 a4 a5 a6 a7 a8 a9 a10 a11 a12 a13 a14 : Option Value} {l : List (Option Value)} {w w2 : Option Value} {v : Int64} (hd : decode y.1 pc = .ok (.lstore 15, 2)) (hp : zm_c1 a14 = true) (k : zA x g y d mc ms Q ce sl (pc + 2) (a0 :: a1 :: a2 :: a3 :: a4 :: a5 :: a6 :: a7 :: a8 :: a9 :: a10 :: a11 :: a12 :: a13 :: a14 :: some (.long v) :: none :: l) st M) : zA x g y d mc ms Q ce sl pc (a0 :: a1 :: a2 :: a3 :: a4 :: a5 :: a6 :: a7 :: a8 :: a9 :: a10 :: a11 :: a12 :: a13 :: a14 :: w :: w2 :: l) (.long v :: st) M :=
  fun F hn ad H locs ls h1 h2 h3 h4 h5 => lv_lstore F.1 F.2.1 hd (zm_as_has h5) (zm_ltl (i := 16) (by simp)) rfl (fun ls hl => k F hn ad H locs ls h1 h2 h3 h4 (zm_L_of2 (v := .long v) (L := a0 :: a1 :: a2 :: a3 :: a4 :: a5 :: a6 :: a7 :: a8 :: a9 :: a10 :: a11 :: a12 :: a13 :: a14 :: w :: w2 :: l) (i := 15) hl (fun j u e hj => by cases e; cases hj; exact zm_c1_of hp)))
theorem zA_aload_15 {a0 a1 a2 a3 a4 a5 a6 a7 a8 a9 a10 a11 a12 a13 a14 : Option Value} {l : List (Option Value)} {v : Nat} (hd : decode y.1 pc = .ok (.aload 15, 2)) (k : zA x g y d mc ms Q ce sl (pc + 2) (a0 :: a1 :: a2 :: a3 :: a4 :: a5 :: a6 :: a7 :: a8 :: a9 :: a10 :: a11 :: a12 :: a13 :: a14 :: some (.ref v) :: l) (.ref v :: st) M) : zA x g y d mc ms Q ce sl pc (a0 :: a1 :: a2 :: a3 :: a4 :: a5 :: a6 :: a7 :: a8 :: a9 :: a10 :: a11 :: a12 :: a13 :: a14 :: some (.ref v) :: l) st M :=
  fun F hn ad H locs ls h1 h2 h3 h4 h5 => lv_aload F.1 F.2.1 hd (h5.2.2 15 (.ref v) rfl) (k F hn ad H locs ls h1 h2 h3 h4 h5)
theorem zA_astore_15 {a0 a1 a2 a3 a4 a5 a6 a7 a8 a9 a10 a11 a12 a13 a14 : Option Value} {l : List (Option Value)} {w : Option Value} {v : Nat} (hd : decode y.1 pc = .ok (.astore 15, 2)) (hp : zm_c1 a14 = true) (k : zA x g y d mc ms Q ce sl (pc + 2) (a0 :: a1 :: a2 :: a3 :: a4 :: a5 :: a6 :: a7 :: a8 :: a9 :: a10 :: a11 :: a12 :: a13 :: a14 :: some (.ref v) :: l) st M) : zA x g y d mc ms Q ce sl pc (a0 :: a1 :: a2 :: a3 :: a4 :: a5 :: a6 :: a7 :: a8 :: a9 :: a10 :: a11 :: a12 :: a13 :: a14 :: w :: l) (.ref v :: st) M :=
  fun F hn ad H locs ls h1 h2 h3 h4 h5 => lv_astore F.1 F.2.1 hd (zm_as_has h5) (zm_ltl (i := 15) (by simp)) rfl (fun ls hl => k F hn ad H locs ls h1 h2 h3 h4 (zm_L_of1 (v := .ref v) (L := a0 :: a1 :: a2 :: a3 :: a4 :: a5 :: a6 :: a7 :: a8 :: a9 :: a10 :: a11 :: a12 :: a13 :: a14 :: w :: l) (i := 15) hl (fun j u e hj => by cases e; cases hj; exact zm_c1_of hp)))
theorem zA_iinc_15 {a0 a1 a2 a3 a4 a5 a6 a7 a8 a9 a10 a11 a12 a13 a14 : Option Value} {l : List (Option Value)} {a : Int32} {n : Int} {v : Int32} (hd : decode y.1 pc = .ok (.iinc 15 n, 3)) (hv : a + Int32.ofInt n = v) (hp : zm_c1 a14 = true) (k : zA x g y d mc ms Q ce sl (pc + 3) (a0 :: a1 :: a2 :: a3 :: a4 :: a5 :: a6 :: a7 :: a8 :: a9 :: a10 :: a11 :: a12 :: a13 :: a14 :: some (.int v) :: l) st M) : zA x g y d mc ms Q ce sl pc (a0 :: a1 :: a2 :: a3 :: a4 :: a5 :: a6 :: a7 :: a8 :: a9 :: a10 :: a11 :: a12 :: a13 :: a14 :: some (.int a) :: l) st M := by
  intro F hn ad H locs ls h1 h2 h3 h4 h5
  obtain ⟨kk, hkk⟩ := zm_as_at (L := a0 :: a1 :: a2 :: a3 :: a4 :: a5 :: a6 :: a7 :: a8 :: a9 :: a10 :: a11 :: a12 :: a13 :: a14 :: some (.int a) :: l) ad 15 (v := .int a) rfl
  exact lv_iinc F.1 F.2.1 hd (zm_as_has h5) hkk hv (zm_ltl (i := 15) (by simp)) rfl (fun ls hl => k F hn ad H locs ls h1 h2 h3 h4 (zm_L_of1 (v := .int v) (L := a0 :: a1 :: a2 :: a3 :: a4 :: a5 :: a6 :: a7 :: a8 :: a9 :: a10 :: a11 :: a12 :: a13 :: a14 :: some (.int a) :: l) (i := 15) hl (fun j u e hj => by cases e; cases hj; exact zm_c1_of hp)))
theorem zA_iload_16 {a0 a1 a2 a3 a4 a5 a6 a7 a8 a9 a10 a11 a12 a13 a14 a15 : Option Value} {l : List (Option Value)} {v : Int32} (hd : decode y.1 pc = .ok (.iload 16, 2)) (k : zA x g y d mc ms Q ce sl (pc + 2) (a0 :: a1 :: a2 :: a3 :: a4 :: a5 :: a6 :: a7 :: a8 :: a9 :: a10 :: a11 :: a12 :: a13 :: a14 :: a15 :: some (.int v) :: l) (.int v :: st) M) : zA x g y d mc ms Q ce sl pc (a0 :: a1 :: a2 :: a3 :: a4 :: a5 :: a6 :: a7 :: a8 :: a9 :: a10 :: a11 :: a12 :: a13 :: a14 :: a15 :: some (.int v) :: l) st M :=
  fun F hn ad H locs ls h1 h2 h3 h4 h5 => lv_iload F.1 F.2.1 hd (h5.2.2 16 (.int v) rfl) (k F hn ad H locs ls h1 h2 h3 h4 h5)
theorem zA_istore_16 {a0 a1 a2 a3 a4 a5 a6 a7 a8 a9 a10 a11 a12 a13 a14 a15 : Option Value} {l : List (Option Value)} {w : Option Value} {v : Int32} (hd : decode y.1 pc = .ok (.istore 16, 2)) (hp : zm_c1 a15 = true) (k : zA x g y d mc ms Q ce sl (pc + 2) (a0 :: a1 :: a2 :: a3 :: a4 :: a5 :: a6 :: a7 :: a8 :: a9 :: a10 :: a11 :: a12 :: a13 :: a14 :: a15 :: some (.int v) :: l) st M) : zA x g y d mc ms Q ce sl pc (a0 :: a1 :: a2 :: a3 :: a4 :: a5 :: a6 :: a7 :: a8 :: a9 :: a10 :: a11 :: a12 :: a13 :: a14 :: a15 :: w :: l) (.int v :: st) M :=
  fun F hn ad H locs ls h1 h2 h3 h4 h5 => lv_istore F.1 F.2.1 hd (zm_as_has h5) (zm_ltl (i := 16) (by simp)) rfl (fun ls hl => k F hn ad H locs ls h1 h2 h3 h4 (zm_L_of1 (v := .int v) (L := a0 :: a1 :: a2 :: a3 :: a4 :: a5 :: a6 :: a7 :: a8 :: a9 :: a10 :: a11 :: a12 :: a13 :: a14 :: a15 :: w :: l) (i := 16) hl (fun j u e hj => by cases e; cases hj; exact zm_c1_of hp)))
theorem zA_lload_16 {a0 a1 a2 a3 a4 a5 a6 a7 a8 a9 a10 a11 a12 a13 a14 a15 : Option Value} {l : List (Option Value)} {v : Int64} (hd : decode y.1 pc = .ok (.lload 16, 2)) (k : zA x g y d mc ms Q ce sl (pc + 2) (a0 :: a1 :: a2 :: a3 :: a4 :: a5 :: a6 :: a7 :: a8 :: a9 :: a10 :: a11 :: a12 :: a13 :: a14 :: a15 :: some (.long v) :: l) (.long v :: st) M) : zA x g y d mc ms Q ce sl pc (a0 :: a1 :: a2 :: a3 :: a4 :: a5 :: a6 :: a7 :: a8 :: a9 :: a10 :: a11 :: a12 :: a13 :: a14 :: a15 :: some (.long v) :: l) st M :=
  fun F hn ad H locs ls h1 h2 h3 h4 h5 => lv_lload F.1 F.2.1 hd (h5.2.2 16 (.long v) rfl) (k F hn ad H locs ls h1 h2 h3 h4 h5)
theorem zA_lstore_16 {a0 a1 a2 a3 a4 a5 a6 a7 a8 a9 a10 a11 a12 a13 a14 a15 : Option Value} {l : List (Option Value)} {w w2 : Option Value} {v : Int64} (hd : decode y.1 pc = .ok (.lstore 16, 2)) (hp : zm_c1 a15 = true) (k : zA x g y d mc ms Q ce sl (pc + 2) (a0 :: a1 :: a2 :: a3 :: a4 :: a5 :: a6 :: a7 :: a8 :: a9 :: a10 :: a11 :: a12 :: a13 :: a14 :: a15 :: some (.long v) :: none :: l) st M) : zA x g y d mc ms Q ce sl pc (a0 :: a1 :: a2 :: a3 :: a4 :: a5 :: a6 :: a7 :: a8 :: a9 :: a10 :: a11 :: a12 :: a13 :: a14 :: a15 :: w :: w2 :: l) (.long v :: st) M :=
  fun F hn ad H locs ls h1 h2 h3 h4 h5 => lv_lstore F.1 F.2.1 hd (zm_as_has h5) (zm_ltl (i := 17) (by simp)) rfl (fun ls hl => k F hn ad H locs ls h1 h2 h3 h4 (zm_L_of2 (v := .long v) (L := a0 :: a1 :: a2 :: a3 :: a4 :: a5 :: a6 :: a7 :: a8 :: a9 :: a10 :: a11 :: a12 :: a13 :: a14 :: a15 :: w :: w2 :: l) (i := 16) hl (fun j u e hj => by cases e; cases hj; exact zm_c1_of hp)))
theorem zA_aload_16 {a0 a1 a2 a3 a4 a5 a6 a7 a8 a9 a10 a11 a12 a13 a14 a15 : Option Value} {l : List (Option Value)} {v : Nat} (hd : decode y.1 pc = .ok (.aload 16, 2)) (k : zA x g y d mc ms Q ce sl (pc + 2) (a0 :: a1 :: a2 :: a3 :: a4 :: a5 :: a6 :: a7 :: a8 :: a9 :: a10 :: a11 :: a12 :: a13 :: a14 :: a15 :: some (.ref v) :: l) (.ref v :: st) M) : zA x g y d mc ms Q ce sl pc (a0 :: a1 :: a2 :: a3 :: a4 :: a5 :: a6 :: a7 :: a8 :: a9 :: a10 :: a11 :: a12 :: a13 :: a14 :: a15 :: some (.ref v) :: l) st M :=
  fun F hn ad H locs ls h1 h2 h3 h4 h5 => lv_aload F.1 F.2.1 hd (h5.2.2 16 (.ref v) rfl) (k F hn ad H locs ls h1 h2 h3 h4 h5)
theorem zA_astore_16 {a0 a1 a2 a3 a4 a5 a6 a7 a8 a9 a10 a11 a12 a13 a14 a15 : Option Value} {l : List (Option Value)} {w : Option Value} {v : Nat} (hd : decode y.1 pc = .ok (.astore 16, 2)) (hp : zm_c1 a15 = true) (k : zA x g y d mc ms Q ce sl (pc + 2) (a0 :: a1 :: a2 :: a3 :: a4 :: a5 :: a6 :: a7 :: a8 :: a9 :: a10 :: a11 :: a12 :: a13 :: a14 :: a15 :: some (.ref v) :: l) st M) : zA x g y d mc ms Q ce sl pc (a0 :: a1 :: a2 :: a3 :: a4 :: a5 :: a6 :: a7 :: a8 :: a9 :: a10 :: a11 :: a12 :: a13 :: a14 :: a15 :: w :: l) (.ref v :: st) M :=
  fun F hn ad H locs ls h1 h2 h3 h4 h5 => lv_astore F.1 F.2.1 hd (zm_as_has h5) (zm_ltl (i := 16) (by simp)) rfl (fun ls hl => k F hn ad H locs ls h1 h2 h3 h4 (zm_L_of1 (v := .ref v) (L := a0 :: a1 :: a2 :: a3 :: a4 :: a5 :: a6 :: a7 :: a8 :: a9 :: a10 :: a11 :: a12 :: a13 :: a14 :: a15 :: w :: l) (i := 16) hl (fun j u e hj => by cases e; cases hj; exact zm_c1_of hp)))
theorem zA_iinc_16 {a0 a1 a2 a3 a4 a5 a6 a7 a8 a9 a10 a11 a12 a13 a14 a15 : Option Value} {l : List (Option Value)} {a : Int32} {n : Int} {v : Int32} (hd : decode y.1 pc = .ok (.iinc 16 n, 3)) (hv : a + Int32.ofInt n = v) (hp : zm_c1 a15 = true) (k : zA x g y d mc ms Q ce sl (pc + 3) (a0 :: a1 :: a2 :: a3 :: a4 :: a5 :: a6 :: a7 :: a8 :: a9 :: a10 :: a11 :: a12 :: a13 :: a14 :: a15 :: some (.int v) :: l) st M) : zA x g y d mc ms Q ce sl pc (a0 :: a1 :: a2 :: a3 :: a4 :: a5 :: a6 :: a7 :: a8 :: a9 :: a10 :: a11 :: a12 :: a13 :: a14 :: a15 :: some (.int a) :: l) st M := by
  intro F hn ad H locs ls h1 h2 h3 h4 h5
  obtain ⟨kk, hkk⟩ := zm_as_at (L := a0 :: a1 :: a2 :: a3 :: a4 :: a5 :: a6 :: a7 :: a8 :: a9 :: a10 :: a11 :: a12 :: a13 :: a14 :: a15 :: some (.int a) :: l) ad 16 (v := .int a) rfl
  exact lv_iinc F.1 F.2.1 hd (zm_as_has h5) hkk hv (zm_ltl (i := 16) (by simp)) rfl (fun ls hl => k F hn ad H locs ls h1 h2 h3 h4 (zm_L_of1 (v := .int v) (L := a0 :: a1 :: a2 :: a3 :: a4 :: a5 :: a6 :: a7 :: a8 :: a9 :: a10 :: a11 :: a12 :: a13 :: a14 :: a15 :: some (.int a) :: l) (i := 16) hl (fun j u e hj => by cases e; cases hj; exact zm_c1_of hp)))
end ZB
/-! ===== memory ===== -/
theorem zm_une {α : Type} {f : Nat → α} {k j : Nat} {v : α} (h : j ≠ k) : va_up f k v j = f j := if_neg h

def zm_gf (own : String) (idx ci j : Nat) : Prop := ∃ (C : String) (T : u_T) (N : Nat), vwCl[ci]? = some (C, T, N) ∧ j < N ∧ (T j).1 = C ∧ (∀ w ∈ u_ws C T N, w ∈ zm_T) ∧
  ((Cond.fieldLink own idx C (T j).2.1 (T j).2.2.1 ∈ zm_T) ∨ ∃ host, Cond.fieldLinkNest own idx C (T j).2.1 (T j).2.2.1 host ∈ zm_N)
theorem zm_nf_eq {ci : Nat} {C : String} {T : u_T} {N : Nat} (h : vwCl[ci]? = some (C, T, N)) : zm_nf ci = N := by unfold zm_nf; rw [h]
theorem zm_ws_at {g : zm_G} {ad : Nat → Nat} {M : zm_M} {k : Nat} {c : zm_K} (h : M.1[k]? = some c) : (zm_ws g ad M)[k]? = some (ad k, zm_ce g ad M k c) := by
  unfold zm_ws
  rw [List.getElem?_mapIdx, h]
  rfl
theorem zm_fs_at {ad : Nat → Nat} {M : zm_M} {k ci j : Nat} (h : j < zm_nf ci) : (zm_fs ad M k ci)[j]? = some (zm_val ad M k j (zm_tyOf ci j)) := by
  unfold zm_fs
  rw [List.getElem?_map, List.getElem?_range h]
  rfl
theorem zm_ws_len (g : zm_G) (ad : Nat → Nat) (M : zm_M) : (zm_ws g ad M).length = M.1.length := by unfold zm_ws; rw [List.length_mapIdx]
/-- two memories that differ in one row give worlds that differ in one cell -/
theorem zm_ws_set {g : zm_G} {ad : Nat → Nat} {M M' : zm_M} {k : Nat} {c : zm_K} {e : va_E} (h : M.1[k]? = some c) (h1 : M'.1 = M.1) (he : zm_ce g ad M' k c = e) (ho : ∀ (j : Nat) (c' : zm_K), j ≠ k → M.1[j]? = some c' → zm_ce g ad M' j c' = zm_ce g ad M j c') :
    (zm_ws g ad M).set k (ad k, e) = zm_ws g ad M' := by
  apply List.ext_getElem?
  intro j
  by_cases hj : k = j
  · subst hj
    have hlt : k < (zm_ws g ad M).length := by rw [zm_ws_len]; exact (List.getElem?_eq_some_iff.mp h).1
    rw [List.getElem?_set_self hlt, zm_ws_at (M := M') (by rw [h1]; exact h), he]
  · rw [List.getElem?_set_ne hj]
    unfold zm_ws
    rw [List.getElem?_mapIdx, List.getElem?_mapIdx, h1]
    cases hc : M.1[j]? with
    | none => rfl
    | some c' =>
      show some (ad j, zm_ce g ad M j c') = some (ad j, zm_ce g ad M' j c')
      rw [ho j c' (fun q => hj q.symm) hc]
/-- what a cell reads of the memory is its own row alone -/
theorem zm_ce_row {g : zm_G} {ad : Nat → Nat} {M M' : zm_M} {k : Nat} {c : zm_K} (h1 : M'.2.1 k = M.2.1 k) (h2 : M'.2.2.1 k = M.2.2.1 k) (h3 : M'.2.2.2 k = M.2.2.2 k) : zm_ce g ad M' k c = zm_ce g ad M k c := by
  have hv : ∀ j ty, zm_val ad M' k j ty = zm_val ad M k j ty := by
    intro j ty
    cases ty <;> simp [zm_val, h1, h2, h3]
  cases c with
  | inl ci => simp [zm_ce, zm_fs, hv]
  | inr q =>
    obtain ⟨ty, n⟩ := q
    cases ty <;> simp [zm_ce, zm_ar, h1, h2, h3]
def zm_isI (ty : FieldType) : Bool := match ty with
  | .int => true | .boolean => true | .byte => true | .short => true | .char => true | _ => false
theorem zm_val_I {ad : Nat → Nat} {M : zm_M} {k j : Nat} {ty : FieldType} (h : zm_isI ty = true) : zm_val ad M k j ty = .int (M.2.1 k j) := by cases ty <;> first | rfl | cases h
def zm_isR (ty : FieldType) : Bool := match ty with
  | .object _ => true | .array _ => true | _ => false
theorem zm_val_R {ad : Nat → Nat} {M : zm_M} {k j : Nat} {ty : FieldType} (h : zm_isR ty = true) : zm_val ad M k j ty = va_rf ((M.2.2.2 k j).map ad) := by cases ty <;> first | rfl | cases h
theorem zm_tyOf_ok (ci : Nat) {C : String} {T : u_T} {N : Nat} (h : vwCl[ci]? = some (C, T, N)) : ∀ k, k < N → parseFieldDescriptor (T k).2.2.1 = some (zm_tyOf ci k) := by
  match ci, h with
  | 0, h => cases h; exact tyX0_ok
  | 1, h => cases h; exact tyX1_ok
  | 2, h => cases h; exact tyX3_ok
  | 3, h => cases h; exact tyX4_ok
  | 4, h => cases h; exact tyX5_ok
  | 5, h => cases h; exact tyX6_ok
  | 6, h => cases h; exact tyX7_ok
  | 7, h => cases h; exact tyX8_ok
  | 8, h => cases h; exact tyX9_ok
  | 9, h => cases h; exact tyX10_ok
  | 10, h => cases h; exact tyX11_ok
  | n + 11, h => simp [vwCl] at h
theorem zm_nm_ok (ci : Nat) {C : String} {T : u_T} {N : Nat} (h : vwCl[ci]? = some (C, T, N)) : ∀ a, a < N → ∀ b, b < N → a ≠ b → (T a).2.1 ≠ (T b).2.1 := by
  match ci, h with
  | 0, h => cases h; exact nmX0
  | 1, h => cases h; exact nmX1
  | 2, h => cases h; exact nmX3
  | 3, h => cases h; exact nmX4
  | 4, h => cases h; exact nmX5
  | 5, h => cases h; exact nmX6
  | 6, h => cases h; exact nmX7
  | 7, h => cases h; exact nmX8
  | 8, h => cases h; exact nmX9
  | 9, h => cases h; exact nmX10
  | 10, h => cases h; exact nmX11
  | n + 11, h => simp [vwCl] at h
theorem zm_W_set {g : zm_G} {ad : Nat → Nat} {M M' : zm_M} {H H1 : Heap} {k : Nat} {c : zm_K} {s0 : Heap} {locs : List Loc} (hw : zm_W g ad M H) (h : M.1[k]? = some c) (h1 : M'.1 = M.1) (hr : ∀ j, j ≠ k → M'.2.1 j = M.2.1 j ∧ M'.2.2.1 j = M.2.2.1 j ∧ M'.2.2.2 j = M.2.2.2 j)
    (hP : va_P g.2.1 vwCl ((zm_ws g ad M).set k (ad k, zm_ce g ad M' k c)) H1) (hD : va_D (zm_A g) ((zm_ws g ad M).set k (ad k, zm_ce g ad M' k c))) (hS : va_S (zm_A g) s0 H1 locs) (hs0 : g.1.size ≤ s0.size) (hs1 : ∀ q : Nat, q < g.1.size → s0[q]? = g.1[q]?) : zm_W g ad M' H1 := by
  have he := zm_ws_set (g := g) (ad := ad) (M := M) (M' := M') h h1 rfl (fun j c' hj _ => zm_ce_row (hr j hj).1 (hr j hj).2.1 (hr j hj).2.2)
  rw [he] at hP hD
  refine ⟨Nat.le_trans hs0 hS.1, fun q hq => ?_, hP, hD, hw.2.2.2.2.1, by rw [h1]; exact hw.2.2.2.2.2⟩
  rw [hS.2.1 q (Nat.lt_of_lt_of_le hq hs0) (Nat.not_le.mpr hq)]
  exact hs1 q hq
section ZC
variable {x : zm_X} {g : zm_G} {y : zm_Y} {d mc ms : Nat} {Q : State → Prop} {ce sl pc : Nat} {L : List (Option Value)} {st : List Value} {sh : List zm_K} {gi : Nat → Nat → Int32} {gl : Nat → Nat → Int64} {gr : Nat → Nat → Option Nat}
/-- any field, read -/
theorem zA_getV {idx ci j q : Nat} (hq : sh[q]? = some (.inl ci)) (hf : zm_gf y.2.1 idx ci j) (hd : decode y.1 pc = .ok (.getfield idx, 3)) {v : Value} (hv : ∀ ad, zm_val ad (sh, gi, gl, gr) q j (zm_tyOf ci j) = zm_c ad v)
    (k : zA x g y d mc ms Q ce sl (pc + 3) L (v :: st) (sh, gi, gl, gr)) : zA x g y d mc ms Q ce sl pc L (.ref q :: st) (sh, gi, gl, gr) := by
  intro F hn ad H locs ls h1 h2 h3 h4 h5
  obtain ⟨C, T, N, hc, hj, hT, hin, hl⟩ := hf
  have hat := zm_ws_at (g := g) (ad := ad) (M := (sh, gi, gl, gr)) hq
  have hfs : (zm_fs ad (sh, gi, gl, gr) q ci)[j]? = some (zm_c ad v) := by rw [zm_fs_at (by rw [zm_nf_eq hc]; exact hj), hv ad]
  have hk := k F hn ad H locs ls h1 h2 h3 h4 h5
  rcases hl with hl | ⟨host, hl⟩
  · exact va_get (ref := C) (own := y.2.1) F.1 F.2.1 F.2.2.2.2.1 hin F.2.2.2.1 F.2.2.2.2.2.2.2.2.2.1.1 h3.2.2.1 q hat hc j hj (F.2.2.2.2.1 _ hl) (fun z hz => by rw [hT] at hz; exact hz) hfs hd hk
  · exact va_getN (ref := C) (own := y.2.1) F.1 F.2.1 F.2.2.2.2.1 hin F.2.2.2.1 F.2.2.2.2.2.2.2.2.2.1.1 h3.2.2.1 q hat hc j hj (va_Nw.use rfl (F.2.2.2.2.2.2.2.2.2.1.2.1 _ hl)) (fun z hz => by rw [hT] at hz; exact hz) hfs hd hk
theorem zA_getI {idx ci j q : Nat} {v : Int32} (hq : sh[q]? = some (.inl ci)) (hf : zm_gf y.2.1 idx ci j) (hd : decode y.1 pc = .ok (.getfield idx, 3)) (hty : zm_isI (zm_tyOf ci j) = true) (hv : gi q j = v)
    (k : zA x g y d mc ms Q ce sl (pc + 3) L (.int v :: st) (sh, gi, gl, gr)) : zA x g y d mc ms Q ce sl pc L (.ref q :: st) (sh, gi, gl, gr) :=
  zA_getV hq hf hd (v := .int v) (fun ad => by rw [zm_val_I hty]; show Value.int (gi q j) = _; rw [hv]; rfl) k
theorem zA_getR {idx ci j q r : Nat} (hq : sh[q]? = some (.inl ci)) (hf : zm_gf y.2.1 idx ci j) (hd : decode y.1 pc = .ok (.getfield idx, 3)) (hty : zm_isR (zm_tyOf ci j) = true) (hv : gr q j = some r)
    (k : zA x g y d mc ms Q ce sl (pc + 3) L (.ref r :: st) (sh, gi, gl, gr)) : zA x g y d mc ms Q ce sl pc L (.ref q :: st) (sh, gi, gl, gr) :=
  zA_getV hq hf hd (v := .ref r) (fun ad => by rw [zm_val_R hty]; show va_rf ((gr q j).map ad) = _; rw [hv]; rfl) k
/-- any field that isn't final, written -/
theorem zA_putV {idx ci j q : Nat} {gi' : Nat → Nat → Int32} {gr' : Nat → Nat → Option Nat} {v : Value} (hq : sh[q]? = some (.inl ci)) (hf : zm_gf y.2.1 idx ci j) (hd : decode y.1 pc = .ok (.putfield idx, 3)) (hfin : ∀ C T N, vwCl[ci]? = some (C, T, N) → (T j).2.2.2 = false)
    (hnar : ∀ ad, narrow (zm_tyOf ci j) (zm_c ad v) = zm_c ad v) (hfit : ∀ ad, fits (zm_tyOf ci j) (zm_c ad v) = true)
    (hset : ∀ ad, (zm_fs ad (sh, gi, gl, gr) q ci).set j (zm_c ad v) = zm_fs ad (sh, gi', gl, gr') q ci) (hr : ∀ a, a ≠ q → gi' a = gi a ∧ gr' a = gr a)
    (k : zA x g y d mc ms Q ce sl (pc + 3) L st (sh, gi', gl, gr')) : zA x g y d mc ms Q ce sl pc L (v :: .ref q :: st) (sh, gi, gl, gr) := by
  intro F hn ad H locs ls h1 h2 h3 h4 h5
  obtain ⟨C, T, N, hc, hj, hT, hin, hl⟩ := hf
  have hat := zm_ws_at (g := g) (ad := ad) (M := (sh, gi, gl, gr)) hq
  have hlen : j < (zm_fs ad (sh, gi, gl, gr) q ci).length := by unfold zm_fs; rw [List.length_map, List.length_range, zm_nf_eq hc]; exact hj
  have key : ∀ (H1 : Heap) (locs1 : List Loc), va_P g.2.1 vwCl ((zm_ws g ad (sh, gi, gl, gr)).set q (ad q, .inr (ci, (zm_fs ad (sh, gi, gl, gr) q ci).set j (zm_c ad v)))) H1 → va_D (zm_A g) ((zm_ws g ad (sh, gi, gl, gr)).set q (ad q, .inr (ci, (zm_fs ad (sh, gi, gl, gr) q ci).set j (zm_c ad v)))) → va_S (zm_A g) x.s.heap H1 locs1 →
      W x.p x.l x.e x.R x.s x.m x.args x.below x.meth x.c H1 locs1 ce sl Q (F0 x.m (pc + 3) ls (st.map (zm_c ad))) := by
    intro H1 locs1 hP hD hS
    rw [hset ad] at hP hD
    exact k F hn ad H1 locs1 ls h1 h2 (zm_W_set (M' := (sh, gi', gl, gr')) (c := .inl ci) h3 hq rfl (fun a ha => ⟨(hr a ha).1, rfl, (hr a ha).2⟩) hP hD hS F.2.2.2.2.2.2.2.2.2.2.1 F.2.2.2.2.2.2.2.2.2.2.2.1) hS h5
  rcases hl with hl | ⟨host, hl⟩
  · exact va_put (ref := C) (own := y.2.1) F.1 F.2.1 F.2.2.2.2.1 hin (zm_tyOf ci) (zm_tyOf_ok ci hc) (zm_nm_ok ci hc) F.2.2.2.1 F.2.2.2.2.2.2.2.2.2.1.1 h3.2.2.1 h3.2.2.2.1 h4 q hat hc j hj (F.2.2.2.2.1 _ hl) (fun z hz => by rw [hT] at hz; exact hz) (hfin _ _ _ hc) (zm_tyOf_ok ci hc j hj) (hnar ad) (hfit ad) hlen hd key
  · exact va_putN (ref := C) (own := y.2.1) F.1 F.2.1 F.2.2.2.2.1 hin (zm_tyOf ci) (zm_tyOf_ok ci hc) (zm_nm_ok ci hc) F.2.2.2.1 F.2.2.2.2.2.2.2.2.2.1.1 h3.2.2.1 h3.2.2.2.1 h4 q hat hc j hj (va_Nw.use rfl (F.2.2.2.2.2.2.2.2.2.1.2.1 _ hl)) (fun z hz => by rw [hT] at hz; exact hz) (hfin _ _ _ hc) (zm_tyOf_ok ci hc j hj) (hnar ad) (hfit ad) hlen hd key
theorem zm_fs_set {ad : Nat → Nat} {M M' : zm_M} {q ci j : Nat} {v : Value} (hv : zm_val ad M' q j (zm_tyOf ci j) = v) (ho : ∀ i, i ≠ j → zm_val ad M' q i (zm_tyOf ci i) = zm_val ad M q i (zm_tyOf ci i)) : (zm_fs ad M q ci).set j v = zm_fs ad M' q ci := by
  apply List.ext_getElem?
  intro i
  by_cases hi : j = i
  · subst hi
    by_cases hl : j < zm_nf ci
    · rw [List.getElem?_set_self (by unfold zm_fs; simpa using hl), zm_fs_at hl, hv]
    · have h1 : (zm_fs ad M' q ci).length ≤ j := by unfold zm_fs; simpa using hl
      have h2 : ((zm_fs ad M q ci).set j v).length ≤ j := by unfold zm_fs; simpa using hl
      rw [List.getElem?_eq_none h1, List.getElem?_eq_none h2]
  · rw [List.getElem?_set_ne hi]
    by_cases hl : i < zm_nf ci
    · rw [zm_fs_at hl, zm_fs_at hl, ho i (fun e => hi e.symm)]
    · have h1 : (zm_fs ad M' q ci).length ≤ i := by unfold zm_fs; simpa using hl
      have h2 : (zm_fs ad M q ci).length ≤ i := by unfold zm_fs; simpa using hl
      rw [List.getElem?_eq_none h1, List.getElem?_eq_none h2]
theorem zm_val_up {ad : Nat → Nat} {M M' : zm_M} {q i : Nat} {ty : FieldType} (h1 : M'.2.1 q i = M.2.1 q i) (h2 : M'.2.2.1 q i = M.2.2.1 q i) (h3 : M'.2.2.2 q i = M.2.2.2 q i) : zm_val ad M' q i ty = zm_val ad M q i ty := by
  cases ty <;> simp [zm_val, h1, h2, h3]
def zm_nfin (ci j : Nat) : Bool := match vwCl[ci]? with
  | some q => !(q.2.1 j).2.2.2
  | none => false
theorem zm_nfin_of {ci j : Nat} (h : zm_nfin ci j = true) (C : String) (T : u_T) (N : Nat) (hc : vwCl[ci]? = some (C, T, N)) : (T j).2.2.2 = false := by
  unfold zm_nfin at h
  rw [hc] at h
  simpa using h
theorem zA_putI {idx ci j q : Nat} {v : Int32} (hq : sh[q]? = some (.inl ci)) (hf : zm_gf y.2.1 idx ci j) (hd : decode y.1 pc = .ok (.putfield idx, 3)) (hfin : zm_nfin ci j = true) (hty : zm_tyOf ci j = .int)
    (k : zA x g y d mc ms Q ce sl (pc + 3) L st (sh, va_up gi q (upd (gi q) j v), gl, gr)) : zA x g y d mc ms Q ce sl pc L (.int v :: .ref q :: st) (sh, gi, gl, gr) :=
  zA_putV (gi' := va_up gi q (upd (gi q) j v)) (gr' := gr) hq hf hd (zm_nfin_of hfin) (fun ad => by rw [hty]; rfl) (fun ad => by rw [hty]; rfl)
    (fun ad => zm_fs_set (by rw [hty]; show Value.int (va_up gi q (upd (gi q) j v) q j) = .int v; rw [va_up_self, pk_us]) (fun i hi => zm_val_up (by show va_up gi q (upd (gi q) j v) q i = gi q i; rw [va_up_self, pk_un hi]) rfl rfl))
    (fun a ha => ⟨zm_une ha, rfl⟩) k
theorem zA_putZ {idx ci j q : Nat} {v : Int32} (hq : sh[q]? = some (.inl ci)) (hf : zm_gf y.2.1 idx ci j) (hd : decode y.1 pc = .ok (.putfield idx, 3)) (hfin : zm_nfin ci j = true) (hty : zm_tyOf ci j = .boolean) (hv : v = 0 ∨ v = 1)
    (k : zA x g y d mc ms Q ce sl (pc + 3) L st (sh, va_up gi q (upd (gi q) j v), gl, gr)) : zA x g y d mc ms Q ce sl pc L (.int v :: .ref q :: st) (sh, gi, gl, gr) :=
  zA_putV (gi' := va_up gi q (upd (gi q) j v)) (gr' := gr) hq hf hd (zm_nfin_of hfin) (fun ad => by rw [hty]; rcases hv with rfl | rfl <;> rfl) (fun ad => by rw [hty]; rcases hv with rfl | rfl <;> rfl)
    (fun ad => zm_fs_set (by rw [hty]; show Value.int (va_up gi q (upd (gi q) j v) q j) = .int v; rw [va_up_self, pk_us]) (fun i hi => zm_val_up (by show va_up gi q (upd (gi q) j v) q i = gi q i; rw [va_up_self, pk_un hi]) rfl rfl))
    (fun a ha => ⟨zm_une ha, rfl⟩) k
theorem zA_putR {idx ci j q r : Nat} (hq : sh[q]? = some (.inl ci)) (hf : zm_gf y.2.1 idx ci j) (hd : decode y.1 pc = .ok (.putfield idx, 3)) (hfin : zm_nfin ci j = true) (hty : zm_isR (zm_tyOf ci j) = true)
    (k : zA x g y d mc ms Q ce sl (pc + 3) L st (sh, gi, gl, va_up gr q (va_up (gr q) j (some r)))) : zA x g y d mc ms Q ce sl pc L (.ref r :: .ref q :: st) (sh, gi, gl, gr) :=
  zA_putV (gi' := gi) (gr' := va_up gr q (va_up (gr q) j (some r))) hq hf hd (zm_nfin_of hfin) (fun ad => by cases h : zm_tyOf ci j <;> first | rfl | (rw [h] at hty; cases hty)) (fun ad => by cases h : zm_tyOf ci j <;> first | rfl | (rw [h] at hty; cases hty))
    (fun ad => zm_fs_set (by rw [zm_val_R hty]; show va_rf ((va_up gr q (va_up (gr q) j (some r)) q j).map ad) = _; rw [va_up_self, va_up_self]; rfl) (fun i hi => zm_val_up rfl rfl (by show va_up gr q (va_up (gr q) j (some r)) q i = gr q i; rw [va_up_self]; exact zm_une hi)))
    (fun a ha => ⟨rfl, zm_une ha⟩) k
/-! arrays -/
theorem zm_in {i : Int32} {j n : Nat} (hj : i = nI j) (hn : j < n) (hb : n < 2 ^ 31) : vp_in i n ∧ i.toNatClampNeg = j := by
  subst hj
  exact ⟨vp_in_nI hn hb, nI_clamp (by omega)⟩
theorem zA_iald {q n : Nat} {i : Int32} {v : Int32} (j : Nat) (hq : sh[q]? = some (.inr (.int, n))) (hd : decode y.1 pc = .ok (.iaload, 1)) (hj : i = nI j) (hn : j < n) (hb : n < 2 ^ 31) (hv : gi q j = v)
    (k : zA x g y d mc ms Q ce sl (pc + 1) L (.int v :: st) (sh, gi, gl, gr)) : zA x g y d mc ms Q ce sl pc L (.int i :: .ref q :: st) (sh, gi, gl, gr) := by
  intro F hl ad H locs ls h1 h2 h3 h4 h5
  obtain ⟨hin, hcl⟩ := zm_in hj hn hb
  have hk := k F hl ad H locs ls h1 h2 h3 h4 h5
  refine va_iald (a := ad q) F.1 F.2.1 F.2.2.2.2.2.2.2.2.2.1.1 h3.2.2.1 q 0 (f := gi q) (zm_ws_at (g := g) (ad := ad) (M := (sh, gi, gl, gr)) hq) rfl hin hd ?_
  rw [hcl, hv]
  exact hk
theorem zA_bald {q n : Nat} {i : Int32} {v : Int32} (j : Nat) (hq : sh[q]? = some (.inr (.byte, n))) (hd : decode y.1 pc = .ok (.baload, 1)) (hj : i = nI j) (hn : j < n) (hb : n < 2 ^ 31) (hv : gi q j = v)
    (k : zA x g y d mc ms Q ce sl (pc + 1) L (.int v :: st) (sh, gi, gl, gr)) : zA x g y d mc ms Q ce sl pc L (.int i :: .ref q :: st) (sh, gi, gl, gr) := by
  intro F hl ad H locs ls h1 h2 h3 h4 h5
  obtain ⟨hin, hcl⟩ := zm_in hj hn hb
  have hk := k F hl ad H locs ls h1 h2 h3 h4 h5
  refine va_bald (a := ad q) F.1 F.2.1 F.2.2.2.2.2.2.2.2.2.1.1 h3.2.2.1 q 1 (f := gi q) (zm_ws_at (g := g) (ad := ad) (M := (sh, gi, gl, gr)) hq) rfl hin hd ?_
  rw [hcl, hv]
  exact hk
theorem zA_zald {q n : Nat} {i : Int32} {v : Int32} (j : Nat) (hq : sh[q]? = some (.inr (.boolean, n))) (hd : decode y.1 pc = .ok (.baload, 1)) (hj : i = nI j) (hn : j < n) (hb : n < 2 ^ 31) (hv : gi q j = v)
    (k : zA x g y d mc ms Q ce sl (pc + 1) L (.int v :: st) (sh, gi, gl, gr)) : zA x g y d mc ms Q ce sl pc L (.int i :: .ref q :: st) (sh, gi, gl, gr) := by
  intro F hl ad H locs ls h1 h2 h3 h4 h5
  obtain ⟨hin, hcl⟩ := zm_in hj hn hb
  have hk := k F hl ad H locs ls h1 h2 h3 h4 h5
  refine va_zald (a := ad q) F.1 F.2.1 F.2.2.2.2.2.2.2.2.2.1.1 h3.2.2.1 q 2 (f := gi q) (zm_ws_at (g := g) (ad := ad) (M := (sh, gi, gl, gr)) hq) rfl hin hd ?_
  rw [hcl, hv]
  exact hk
theorem zA_lald {q n : Nat} {i : Int32} {v : Int64} (j : Nat) (hq : sh[q]? = some (.inr (.long, n))) (hd : decode y.1 pc = .ok (.laload, 1)) (hj : i = nI j) (hn : j < n) (hb : n < 2 ^ 31) (hv : gl q j = v)
    (k : zA x g y d mc ms Q ce sl (pc + 1) L (.long v :: st) (sh, gi, gl, gr)) : zA x g y d mc ms Q ce sl pc L (.int i :: .ref q :: st) (sh, gi, gl, gr) := by
  intro F hl ad H locs ls h1 h2 h3 h4 h5
  obtain ⟨hin, hcl⟩ := zm_in hj hn hb
  have hk := k F hl ad H locs ls h1 h2 h3 h4 h5
  refine va_lald (a := ad q) F.1 F.2.1 F.2.2.2.2.2.2.2.2.2.1.1 h3.2.2.1 q 3 (f := gl q) (zm_ws_at (g := g) (ad := ad) (M := (sh, gi, gl, gr)) hq) rfl hin hd ?_
  rw [hcl, hv]
  exact hk
theorem zA_aald {q n r : Nat} {i : Int32} (j : Nat) (hq : sh[q]? = some (.inr (.array .int, n))) (hd : decode y.1 pc = .ok (.aaload, 1)) (hj : i = nI j) (hn : j < n) (hb : n < 2 ^ 31) (hv : gr q j = some r)
    (k : zA x g y d mc ms Q ce sl (pc + 1) L (.ref r :: st) (sh, gi, gl, gr)) : zA x g y d mc ms Q ce sl pc L (.int i :: .ref q :: st) (sh, gi, gl, gr) := by
  intro F hl ad H locs ls h1 h2 h3 h4 h5
  obtain ⟨hin, hcl⟩ := zm_in hj hn hb
  have hk := k F hl ad H locs ls h1 h2 h3 h4 h5
  have hc : H[ad q]? = some (arrV (g.2.2.1 (.array .int)) n (fun j => va_rf ((gr q j).map ad))) := h3.2.2.1 q _ (zm_ws_at (g := g) (ad := ad) (M := (sh, gi, gl, gr)) hq)
  refine W.aald (a := ad q) (ty := .array .int) (v := .ref (ad r)) F.1 F.2.1 hc ((F.2.2.2.2.2.2.2.2.2.1.1.2 4 _ rfl).1 n (fun j => va_rf ((gr q j).map ad))) rfl (fun q => by cases q) (by rw [arrV_size]; exact hin) (by rw [hcl, arrV_read _ _ hn, hv]; rfl) rfl rfl hd hk
theorem zA_alen {q n : Nat} {ty : FieldType} {v : Int32} (t0 : Nat) (hq : sh[q]? = some (.inr (ty, n))) (ht : ∀ g, (zm_tys g)[t0]? = some (g.2.2.1 ty, ty)) (hd : decode y.1 pc = .ok (.arraylength, 1)) (hv : nI n = v)
    (k : zA x g y d mc ms Q ce sl (pc + 1) L (.int v :: st) (sh, gi, gl, gr)) : zA x g y d mc ms Q ce sl pc L (.ref q :: st) (sh, gi, gl, gr) := by
  intro F hl ad H locs ls h1 h2 h3 h4 h5
  refine va_alen (a := ad q) F.1 F.2.1 F.2.2.2.2.2.2.2.2.2.1.1 h3.2.2.1 q t0 (zm_ws_at (g := g) (ad := ad) (M := (sh, gi, gl, gr)) hq) (ht g) (v := v) ?_ hd (k F hl ad H locs ls h1 h2 h3 h4 h5)
  rw [← hv]
  cases ty <;> rfl
theorem zA_iast {q n : Nat} {i v : Int32} (j : Nat) (hq : sh[q]? = some (.inr (.int, n))) (hd : decode y.1 pc = .ok (.iastore, 1)) (hj : i = nI j) (hn : j < n) (hb : n < 2 ^ 31)
    (k : zA x g y d mc ms Q ce sl (pc + 1) L st (sh, va_up gi q (upd (gi q) j v), gl, gr)) : zA x g y d mc ms Q ce sl pc L (.int v :: .int i :: .ref q :: st) (sh, gi, gl, gr) := by
  intro F hl ad H locs ls h1 h2 h3 h4 h5
  obtain ⟨hin, hcl⟩ := zm_in hj hn hb
  refine va_iast (a := ad q) F.1 F.2.1 F.2.2.2.2.2.2.2.2.2.1.1 h3.2.2.1 h3.2.2.2.1 h4 q 0 (f := gi q) (zm_ws_at (g := g) (ad := ad) (M := (sh, gi, gl, gr)) hq) rfl hin hd (fun H1 locs1 hP hD hS => ?_)
  rw [hcl] at hP hD
  have he : zm_ce g ad (sh, va_up gi q (upd (gi q) j v), gl, gr) q (.inr (.int, n)) = .inl (g.2.2.1 .int, n, .inl (upd (gi q) j v)) := by
    show (Sum.inl (g.2.2.1 .int, n, .inl (va_up gi q (upd (gi q) j v) q)) : va_E) = _
    rw [va_up_self]
  rw [← he] at hP hD
  exact k F hl ad H1 locs1 ls h1 h2 (zm_W_set (M' := (sh, va_up gi q (upd (gi q) j v), gl, gr)) h3 hq rfl (fun a ha => ⟨zm_une ha, rfl, rfl⟩) hP hD hS F.2.2.2.2.2.2.2.2.2.2.1 F.2.2.2.2.2.2.2.2.2.2.2.1) hS h5
theorem zA_bast {q n : Nat} {i v : Int32} (j : Nat) (hq : sh[q]? = some (.inr (.byte, n))) (hd : decode y.1 pc = .ok (.bastore, 1)) (hj : i = nI j) (hn : j < n) (hb : n < 2 ^ 31)
    (k : zA x g y d mc ms Q ce sl (pc + 1) L st (sh, va_up gi q (upd (gi q) j v.toInt8.toInt32), gl, gr)) : zA x g y d mc ms Q ce sl pc L (.int v :: .int i :: .ref q :: st) (sh, gi, gl, gr) := by
  intro F hl ad H locs ls h1 h2 h3 h4 h5
  obtain ⟨hin, hcl⟩ := zm_in hj hn hb
  refine va_bast (a := ad q) F.1 F.2.1 F.2.2.2.2.2.2.2.2.2.1.1 h3.2.2.1 h3.2.2.2.1 h4 q 1 (f := gi q) (zm_ws_at (g := g) (ad := ad) (M := (sh, gi, gl, gr)) hq) rfl hin hd (fun H1 locs1 hP hD hS => ?_)
  rw [hcl, vp_nar_byte] at hP hD
  have he : zm_ce g ad (sh, va_up gi q (upd (gi q) j v.toInt8.toInt32), gl, gr) q (.inr (.byte, n)) = .inl (g.2.2.1 .byte, n, .inl (upd (gi q) j v.toInt8.toInt32)) := by
    show (Sum.inl (g.2.2.1 .byte, n, .inl (va_up gi q (upd (gi q) j v.toInt8.toInt32) q)) : va_E) = _
    rw [va_up_self]
  rw [← he] at hP hD
  exact k F hl ad H1 locs1 ls h1 h2 (zm_W_set (M' := (sh, va_up gi q (upd (gi q) j v.toInt8.toInt32), gl, gr)) h3 hq rfl (fun a ha => ⟨zm_une ha, rfl, rfl⟩) hP hD hS F.2.2.2.2.2.2.2.2.2.2.1 F.2.2.2.2.2.2.2.2.2.2.2.1) hS h5
theorem zA_zast {q n : Nat} {i v : Int32} (j : Nat) (hq : sh[q]? = some (.inr (.boolean, n))) (hd : decode y.1 pc = .ok (.bastore, 1)) (hj : i = nI j) (hn : j < n) (hb : n < 2 ^ 31) (hv : v = 0 ∨ v = 1)
    (k : zA x g y d mc ms Q ce sl (pc + 1) L st (sh, va_up gi q (upd (gi q) j v), gl, gr)) : zA x g y d mc ms Q ce sl pc L (.int v :: .int i :: .ref q :: st) (sh, gi, gl, gr) := by
  intro F hl ad H locs ls h1 h2 h3 h4 h5
  obtain ⟨hin, hcl⟩ := zm_in hj hn hb
  refine va_zast (a := ad q) F.1 F.2.1 F.2.2.2.2.2.2.2.2.2.1.1 h3.2.2.1 h3.2.2.2.1 h4 q 2 (f := gi q) (zm_ws_at (g := g) (ad := ad) (M := (sh, gi, gl, gr)) hq) rfl hin hd (fun H1 locs1 hP hD hS => ?_)
  have hnv : vp_nar .boolean v = v := by rcases hv with rfl | rfl <;> rfl
  rw [hcl, hnv] at hP hD
  have he : zm_ce g ad (sh, va_up gi q (upd (gi q) j v), gl, gr) q (.inr (.boolean, n)) = .inl (g.2.2.1 .boolean, n, .inl (upd (gi q) j v)) := by
    show (Sum.inl (g.2.2.1 .boolean, n, .inl (va_up gi q (upd (gi q) j v) q)) : va_E) = _
    rw [va_up_self]
  rw [← he] at hP hD
  exact k F hl ad H1 locs1 ls h1 h2 (zm_W_set (M' := (sh, va_up gi q (upd (gi q) j v), gl, gr)) h3 hq rfl (fun a ha => ⟨zm_une ha, rfl, rfl⟩) hP hD hS F.2.2.2.2.2.2.2.2.2.2.1 F.2.2.2.2.2.2.2.2.2.2.2.1) hS h5
theorem zA_last {q n : Nat} {i : Int32} {v : Int64} (j : Nat) (hq : sh[q]? = some (.inr (.long, n))) (hd : decode y.1 pc = .ok (.lastore, 1)) (hj : i = nI j) (hn : j < n) (hb : n < 2 ^ 31)
    (k : zA x g y d mc ms Q ce sl (pc + 1) L st (sh, gi, va_up gl q (vp_updL (gl q) j v), gr)) : zA x g y d mc ms Q ce sl pc L (.long v :: .int i :: .ref q :: st) (sh, gi, gl, gr) := by
  intro F hl ad H locs ls h1 h2 h3 h4 h5
  obtain ⟨hin, hcl⟩ := zm_in hj hn hb
  refine va_last (a := ad q) F.1 F.2.1 F.2.2.2.2.2.2.2.2.2.1.1 h3.2.2.1 h3.2.2.2.1 h4 q 3 (f := gl q) (zm_ws_at (g := g) (ad := ad) (M := (sh, gi, gl, gr)) hq) rfl hin hd (fun H1 locs1 hP hD hS => ?_)
  rw [hcl] at hP hD
  have he : zm_ce g ad (sh, gi, va_up gl q (vp_updL (gl q) j v), gr) q (.inr (.long, n)) = .inl (g.2.2.1 .long, n, .inr (.inl (vp_updL (gl q) j v))) := by
    show (Sum.inl (g.2.2.1 .long, n, .inr (.inl (va_up gl q (vp_updL (gl q) j v) q))) : va_E) = _
    rw [va_up_self]
  rw [← he] at hP hD
  exact k F hl ad H1 locs1 ls h1 h2 (zm_W_set (M' := (sh, gi, va_up gl q (vp_updL (gl q) j v), gr)) h3 hq rfl (fun a ha => ⟨rfl, zm_une ha, rfl⟩) hP hD hS F.2.2.2.2.2.2.2.2.2.2.1 F.2.2.2.2.2.2.2.2.2.2.2.1) hS h5
end ZC
/-! ===== contracts ===== -/
def zm_rm (d mc ms : Nat) : Room := { frames := d, cells := mc, slots := ms, locals := 41 * d }
def zm_Qc (g : zm_G) (ad0 : Nat → Nat) (n0 : Nat) (post : Option Value → zm_M → Prop) : Array Value → State → Outcome → State → Prop := fun _ st o t =>
  ∃ (v : Option Value) (M' : zm_M) (ad : Nat → Nat), o = .returned (v.map (zm_c ad)) ∧ post v M' ∧ (∀ k, (k < n0 ∨ M'.1.length ≤ k) → ad k = ad0 k) ∧ n0 ≤ M'.1.length ∧ zm_W g ad M' t.heap ∧ va_F (zm_A g) st t
def zm_ws0 (y : MethodName) (Y : zm_Y) : List Cond := Cond.code y Y.1 Y.2.2.1 Y.2.2.2 :: zm_T
def zm_Ct (g : zm_G) (y : MethodName) (Y : zm_Y) (d mc ms : Nat) (as : List Value) (M : zm_M) (post : Option Value → zm_M → Prop) : Prop :=
  ∀ (l : Launch) (ad : Nat → Nat), Met l y (zm_ws0 y Y) (zm_rm d mc ms) (va_Pc (as.map (zm_c ad)) (fun U => zm_Gl g U ∧ zm_W g ad M U.heap)) (zm_Qc g ad M.1.length post) mc ms (zm_A g)
def zm_Qx (g : zm_G) (x : zm_X) (mc ms : Nat) (post : Option Value → zm_M → Prop) : State → Prop := MQ x.below (zm_Qc g x.ad x.n post) x.args x.s mc ms (zm_A g)
def zm_sl (as : List Value) : List (Option Value) := as.flatMap fun v => if v.category = 2 then [some v, none] else [some v]
def zm_L0 (as : List Value) (n : Nat) : List (Option Value) := zm_sl as ++ List.replicate (n - (zm_sl as).length) none
def zm_slo (ad : Nat → Nat) (o : Option Value) : Slot := match o with
  | some v => .val (zm_c ad v)
  | none => .second
theorem zm_sl_eq (ad : Nat → Nat) : ∀ as : List Value, lg_sl (as.map (zm_c ad)) = (zm_sl as).map (zm_slo ad)
  | [] => rfl
  | v :: as => by
    have ih := zm_sl_eq ad as
    unfold lg_sl zm_sl at ih ⊢
    rw [List.map_cons, List.flatMap_cons, List.flatMap_cons, List.map_append, ih, zm_c_cat]
    congr 1
    by_cases h : v.category = 2
    · rw [if_pos h, if_pos h]; rfl
    · rw [if_neg h, if_neg h]; rfl
theorem zm_L0_ok (ad : Nat → Nat) (as : List Value) {n : Nat} (h : (zm_sl as).length ≤ n) :
    zm_L ad (zm_L0 as n) ((lg_sl (as.map (zm_c ad)) ++ List.replicate (n - (lg_sl (as.map (zm_c ad))).length) Slot.unset).toArray) := by
  have hlen : (lg_sl (as.map (zm_c ad))).length = (zm_sl as).length := by rw [zm_sl_eq, List.length_map]
  have he := lv_entry (as.map (zm_c ad)) (n := n) (by rw [hlen]; exact h)
  refine ⟨?_, he.2.1, fun i v hi => ?_⟩
  · rw [he.1]
    unfold zm_L0
    rw [List.length_append, List.length_replicate]
    omega
  · unfold zm_L0 at hi
    by_cases hl : i < (zm_sl as).length
    · rw [List.getElem?_append_left hl] at hi
      rw [List.getElem?_toArray, List.getElem?_append_left (by rw [hlen]; exact hl), zm_sl_eq, List.getElem?_map, hi]
      rfl
    · rw [List.getElem?_append_right (Nat.le_of_not_lt hl), List.getElem?_replicate] at hi
      split at hi <;> cases hi
theorem zm_Ct_of {g : zm_G} {y : MethodName} {Y : zm_Y} {d mc ms : Nat} {as : List Value} {M : zm_M} {post : Option Value → zm_M → Prop} (L : List (Option Value)) (hy : plainName y.cls = true) (hcls : y.cls = Y.2.1) (hL : zm_L0 as Y.2.2.1 = L) (hn : (zm_sl as).length ≤ Y.2.2.1)
    (k : ∀ x : zm_X, x.n = M.1.length → x.meth.name = y.name → zA x g Y d mc ms (zm_Qx g x mc ms post) 0 0 0 L [] M) : zm_Ct g y Y d mc ms as M post := by
  intro l ad
  refine Met.ofW (cc := Y.1) (maxL := Y.2.2.1) (ret := Y.2.2.2) hy rfl ?_
  intro p e s m args below meth c s₁ B hml hv
  obtain ⟨rfl, hG, hw⟩ := hv
  have hts := atoms_spec (ws := zm_ws0 y Y) B.pre
  have hown : s.vm.findClass y.cls = some m.cls := findClass_of_methodNamed B.named
  have hin : meth.name = y.name := (name_of_methodNamed B.named B.method).1
  rw [lg_entry_eq]
  have hk := k (p, l, e, (headSpec (zm_ws0 y Y) (zm_rm d mc ms)).room, s, m, (as.map (zm_c ad)).toArray, below, meth, c, ad, M.1.length) rfl hin
    ⟨B.exec, B.bytes, hml, by rw [← hcls]; exact hown, fun w hw => hts w (List.mem_cons_of_mem _ hw), Nat.le_refl _, Nat.le_refl _, rfl, rfl, hG, hw.1, hw.2.1, B.notSynchronized, B.returns⟩
  refine hk ?_ ad s.heap [] _ (fun _ _ => rfl) (Nat.le_refl _) hw va_S.rf (by rw [← hL]; exact zm_L0_ok ad as hn)
  rw [← hL]
  unfold zm_L0
  rw [List.length_append, List.length_replicate]
  omega
section ZD
variable {x : zm_X} {g : zm_G} {y : zm_Y} {d mc ms : Nat} {Q : State → Prop} {ce sl pc : Nat} {L : List (Option Value)} {st : List Value} {M : zm_M} {post : Option Value → zm_M → Prop}
theorem zm_end {ad : Nat → Nat} {H : Heap} {locs : List Loc} {v : Option Value} {t : State} (h1 : ∀ k, (k < x.n ∨ M.1.length ≤ k) → ad k = x.ad k) (h2 : x.n ≤ M.1.length) (h3 : zm_W g ad M H) (h4 : va_S (zm_A g) x.s.heap H locs) (hp : post v M) (ht : t.heap = H) :
    zm_Qc g x.ad x.n post x.args x.s (.returned (v.map (zm_c ad))) t := ⟨v, M, ad, rfl, hp, h1, h2, by rw [ht]; exact h3, h4.F ht⟩
theorem zA_iret {v : Int32} (hr : y.2.2.2 = some .int) (hd : decode y.1 pc = .ok (.ireturn, 1)) (hp : post (some (.int v)) M) : zA x g y d mc ms (zm_Qx g x mc ms post) mc ms pc L [.int v] M := by
  intro F hn ad H locs ls h1 h2 h3 h4 h5
  exact W.iret (v := v) F.1 F.2.1 (F.2.2.2.2.2.2.2.2.2.2.2.2.2.trans hr) (fun t ht _ => zm_end h1 h2 h3 h4 hp ht) h4.2.2 hd (hlocks := F.2.2.2.2.2.2.2.2.2.2.2.2.1)
theorem zA_zret {v : Int32} (hr : y.2.2.2 = some .boolean) (hd : decode y.1 pc = .ok (.ireturn, 1)) (hv : v = 0 ∨ v = 1) (hp : post (some (.int v)) M) : zA x g y d mc ms (zm_Qx g x mc ms post) mc ms pc L [.int v] M := by
  intro F hn ad H locs ls h1 h2 h3 h4 h5
  exact W.zret (v := v) (ty := .boolean) F.1 F.2.1 (F.2.2.2.2.2.2.2.2.2.2.2.2.2.trans hr) (by rcases hv with rfl | rfl <;> rfl) (fun t ht _ => zm_end h1 h2 h3 h4 hp ht) h4.2.2 hd (hlocks := F.2.2.2.2.2.2.2.2.2.2.2.2.1)
theorem zA_lret {v : Int64} (hr : y.2.2.2 = some .long) (hd : decode y.1 pc = .ok (.lreturn, 1)) (hp : post (some (.long v)) M) : zA x g y d mc ms (zm_Qx g x mc ms post) mc ms pc L [.long v] M := by
  intro F hn ad H locs ls h1 h2 h3 h4 h5
  exact W.lret (v := v) F.1 F.2.1 (F.2.2.2.2.2.2.2.2.2.2.2.2.2.trans hr) (fun t ht _ => zm_end h1 h2 h3 h4 hp ht) h4.2.2 hd (hlocks := F.2.2.2.2.2.2.2.2.2.2.2.2.1)
theorem zA_vret (hr : y.2.2.2 = none) (hd : decode y.1 pc = .ok (.return_, 1)) (hp : post none M) : zA x g y d mc ms (zm_Qx g x mc ms post) mc ms pc L [] M := by
  intro F hn ad H locs ls h1 h2 h3 h4 h5
  exact W.vret F.1 F.2.1 (F.2.2.2.2.2.2.2.2.2.2.2.2.2.trans hr) (fun t ht _ => zm_end (v := none) h1 h2 h3 h4 hp ht) h4.2.2 hd (hlocks := F.2.2.2.2.2.2.2.2.2.2.2.2.1)
theorem zA_widen {ce' sl' : Nat} (h1 : ce ≤ ce') (h2 : sl ≤ sl') (k : zA x g y d mc ms Q ce' sl' pc L st M) : zA x g y d mc ms Q ce sl pc L st M :=
  fun F hn ad H locs ls a1 a2 a3 a4 a5 => W.widen h1 h2 (k F hn ad H locs ls a1 a2 a3 a4 a5)
end ZD
/-! ===== calls ===== -/
theorem zm_Gl_warm {g : zm_G} {s U : State} (hW : s.WarmedH U.vm) (h : zm_Gl g s) : zm_Gl g U := by
  refine ⟨va_K.moved hW.alike h.1, fun w hw => ?_, h.2.2.alike hW.alike (fun i hi => (h.2.2.2.2.2.2.2 i hi).warm hW)⟩
  have h2 := h.2.1 w hw
  have h3 := (List.mem_filter.mp hw).2
  cases w <;> first | exact va_Nw.warmF hW h2 | exact va_Nw.warmM hW h2 | (simp [zm_isN] at h3)
theorem zm_blind {g : zm_G} {as : List Value} {ad : Nat → Nat} {M : zm_M} : FrameBlind (va_Pc (as.map (zm_c ad)) (fun U => zm_Gl g U ∧ zm_W g ad M U.heap)) := by
  intro a U fr mk h
  obtain ⟨h1, ⟨h2, h3, h5⟩, h4⟩ := h
  refine ⟨h1, ⟨va_K.moved (u := U) (U := U.calling fr mk a) (Vm.Alike.refl U.vm) h2, fun w hw => ?_, h5.alike (U := U.calling fr mk a) (Vm.Alike.refl U.vm) (fun i hi => vk_R.same (u := U) rfl (h5.2.2.2.2.2 i hi))⟩, h4⟩
  have hx := (List.mem_filter.mp hw).2
  refine va_Nw.same ?_ (show U.vm = (U.calling fr mk a).vm from rfl) (h3 w hw)
  cases w <;> first | rfl | (simp [zm_isN] at hx)
theorem zm_good (y : MethodName) (Y : zm_Y) (h : Cond.code y Y.1 Y.2.2.1 Y.2.2.2 ∈ zm_T) : GoodIn zm_T (zm_ws0 y Y) := by
  intro w hw
  have hm : w ∈ zm_T := by
    rcases List.mem_cons.mp hw with rfl | hw
    · exact h
    · exact hw
  exact ⟨hm, good_of_word (zm_T_good hm)⟩
/-- what a callee's name needs of the tables -/
def zm_cal (y : MethodName) (Y : zm_Y) (n : Nat) : Prop := Cond.code y Y.1 Y.2.2.1 Y.2.2.2 ∈ zm_T ∧ Cond.initialized y.cls ∈ zm_T ∧ (y.cls ≠ "java/lang/invoke/MethodHandle" ∧ y.cls ≠ "java/lang/invoke/VarHandle" ∧ (parseMethodDescriptor y.desc).map (fun d => d.parameters.length) = some n) ∧ Y.2.2.1 ≤ 22
def zm_lk (own : String) (idx : Nat) (y : MethodName) : Prop := Cond.methodLink own idx y ∈ zm_T ∨ ∃ host, Cond.methodLinkNest own idx y host ∈ zm_N
section ZE
variable {p : Program} {l : Launch} {e : Env} {R : Room} {s : State} {m : MethodId} {args : Array Value} {below : List Frame} {meth : Method} {c : Code} {H : Heap} {locs : List Loc} {cells slots : Nat} {Q : State → Prop}
theorem zm_after {g : zm_G} {ad : Nat → Nat} {n mc ms pc : Nat} {post : Option Value → zm_M → Prop} {a : Array Value} {ls : Array Slot} {rest st0 : List Value} (hr : va_Run p l e R s m args below meth c H locs cells slots mc ms (F0 m pc ls st0) rest (zm_Qc g ad n post a) (zm_A g)) (hS : va_S (zm_A g) s.heap H locs)
    (kk : ∀ (v : Option Value) (M' : zm_M) (ad' : Nat → Nat) (H1 : Heap) (locs1 : List Loc), post v M' → (∀ k, (k < n ∨ M'.1.length ≤ k) → ad' k = ad k) → n ≤ M'.1.length → zm_W g ad' M' H1 → va_S (zm_A g) s.heap H1 locs1 → W p l e R s m args below meth c H1 locs1 (cells + mc) (slots + ms) Q (F0 m (pc + 3) ls ((v.map (zm_c ad')).toList ++ rest))) :
    W p l e R s m args below meth c H locs cells slots Q (F0 m pc ls st0) := by
  intro T hT X
  obtain ⟨v, st₀, t, T', Lc, h0, X', hL, e1, e2, ⟨v', M', ad', hv, hp, had, hn, hw, hz, hk⟩, st⟩ := hr T hT X
  cases hv
  rw [h0] at hz hk
  obtain ⟨t2, a1, b1⟩ := kk v' M' ad' T'.heap (locs ++ Lc) hp had hn (by rw [e1]; exact hw)
    ⟨Nat.le_trans hS.1 (by rw [e1]; exact hz), fun q h1 h2 => by rw [e1, hk q (Nat.lt_of_lt_of_le h1 hS.1) h2]; exact hS.2.1 q h1 h2, fun q hq => by
      rcases List.mem_append.mp hq with h | h
      · exact hS.2.2 q h
      · exact hL q h⟩ T' rfl X'
  exact ⟨t2, st t2 a1, b1⟩
end ZE
section ZF
variable {x : zm_X} {g : zm_G} {y : zm_Y} {d mc ms : Nat} {Q : State → Prop} {ce sl pc : Nat} {L : List (Option Value)} {M : zm_M} {post : Option Value → zm_M → Prop} {as rest st : List Value} {yc : MethodName} {Yc : zm_Y} {dc mc' ms' idx : Nat}
theorem zm_map_st (ad : Nat → Nat) (as rest : List Value) : (as.reverse ++ rest).map (zm_c ad) = (as.map (zm_c ad)).reverse ++ rest.map (zm_c ad) := by rw [List.map_append, List.map_reverse]
/-- refs of locals and stack that a growing world leaves alone -/
def zm_rok (n : Nat) (v : Value) : Bool := match v with
  | .ref k => decide (k < n) || decide (zm_cB ≤ k)
  | _ => true
def zm_rokL (n : Nat) (L : List (Option Value)) : Bool := L.all (fun o => match o with | some v => zm_rok n v | none => true)
theorem zm_c_same {n n' : Nat} {ad ad' : Nat → Nat} (h : ∀ k, (k < n ∨ n' ≤ k) → ad' k = ad k) (hn : n' ≤ zm_cB) {v : Value} (hv : zm_rok n v = true) : zm_c ad' v = zm_c ad v := by
  cases v with
  | ref k =>
    simp only [zm_rok, Bool.or_eq_true, decide_eq_true_eq] at hv
    show Value.ref (ad' k) = .ref (ad k)
    rw [h k (hv.elim Or.inl (fun q => Or.inr (Nat.le_trans hn q)))]
  | _ => rfl
theorem zm_cs_same {n n' : Nat} {ad ad' : Nat → Nat} (h : ∀ k, (k < n ∨ n' ≤ k) → ad' k = ad k) (hn : n' ≤ zm_cB) {st : List Value} (hv : st.all (zm_rok n) = true) : st.map (zm_c ad') = st.map (zm_c ad) :=
  List.map_congr_left (fun v hm => zm_c_same h hn (List.all_eq_true.mp hv v hm))
theorem zm_L_same {n n' : Nat} {ad ad' : Nat → Nat} (h : ∀ k, (k < n ∨ n' ≤ k) → ad' k = ad k) (hn : n' ≤ zm_cB) {L : List (Option Value)} {ls : Array Slot} (hv : zm_rokL n L = true) (hl : zm_L ad L ls) : zm_L ad' L ls := by
  refine ⟨hl.1, hl.2.1, fun i v hi => ?_⟩
  have := List.all_eq_true.mp hv _ (List.mem_of_getElem? hi)
  rw [zm_c_same h hn this]
  exact hl.2.2 i v hi
theorem zm_next {v : Option Value} {M' : zm_M} {ad ad' : Nat → Nat} {H1 : Heap} {locs1 : List Loc} {ls : Array Slot} (F : zm_fix x g y d mc ms) (hl : L.length = y.2.2.1) (h1 : ∀ k, (k < x.n ∨ M.1.length ≤ k) → ad k = x.ad k) (h2 : x.n ≤ M.1.length) (h5 : zm_L ad L ls) (hok : (zm_rokL M.1.length L = true ∧ rest.all (zm_rok M.1.length) = true) ∨ M'.1.length = M.1.length)
    (had : ∀ k, (k < M.1.length ∨ M'.1.length ≤ k) → ad' k = ad k) (hn : M.1.length ≤ M'.1.length) (hw : zm_W g ad' M' H1) (hS : va_S (zm_A g) x.s.heap H1 locs1)
    (k : zA x g y d mc ms Q ce sl pc L (v.toList ++ rest) M') : W x.p x.l x.e x.R x.s x.m x.args x.below x.meth x.c H1 locs1 ce sl Q (F0 x.m pc ls ((v.map (zm_c ad')).toList ++ rest.map (zm_c ad))) := by
  have hB : M'.1.length ≤ zm_cB := hw.2.2.2.2.2
  have hq : zm_L ad' L ls ∧ rest.map (zm_c ad') = rest.map (zm_c ad) := by
    rcases hok with ⟨hrL, hrS⟩ | he
    · exact ⟨zm_L_same had hB hrL h5, zm_cs_same had hB hrS⟩
    · have e : ad' = ad := funext fun q => had q (by rw [he]; exact Nat.lt_or_ge q _)
      subst e
      exact ⟨h5, rfl⟩
  have hk := k F hl ad' H1 locs1 ls (fun q hq => by
    rcases hq with hq | hq
    · rw [had q (Or.inl (Nat.lt_of_lt_of_le hq h2))]; exact h1 q (Or.inl hq)
    · rw [had q (Or.inr hq)]; exact h1 q (Or.inr (Nat.le_trans hn hq))) (Nat.le_trans h2 hn) hw hS hq.1
  rw [List.map_append, hq.2] at hk
  cases v <;> exact hk
theorem zA_cS (hc : zm_Ct g yc Yc dc mc' ms' as M post) (hcal : zm_cal yc Yc as.length) (hlk : zm_lk y.2.1 idx yc) (hst : Cond.static yc ∈ zm_T) (hd : decode y.1 pc = .ok (.invokestatic idx, 3)) (hdep : dc + 1 ≤ d) (hce : ce + mc' ≤ mc) (hsl : sl + ms' ≤ ms) (hcat : (rest.map fun v => v.category).sum ≤ 8)
    (hs : st = as.reverse ++ rest) (hok : (zm_rokL M.1.length L = true ∧ rest.all (zm_rok M.1.length) = true) ∨ ∀ v M', post v M' → M'.1.length = M.1.length) (k : ∀ v M', post v M' → zA x g y d mc ms Q (ce + mc') (sl + ms') (pc + 3) L (v.toList ++ rest) M') : zA x g y d mc ms Q ce sl pc L st M := by
  intro F hl ad H locs ls h1 h2 h3 h4 h5
  subst hs
  obtain ⟨f1, f2, f3, f4, f5, f6, f7, f8, f9, f10, f11, f12, f13, f14⟩ := id F
  have hR : dc + 1 ≤ x.R.frames ∧ 8 + (Yc.2.2.1 + 11) + 41 * dc ≤ x.R.locals := ⟨Nat.le_trans hdep f6, by have := hcal.2.2.2; omega⟩
  have hp : PreS x.s H (va_Pc (as.map (zm_c ad)) (fun U => zm_Gl g U ∧ zm_W g ad M U.heap)) (as.map (zm_c ad)) := ⟨zm_blind, fun U hU hW => ⟨rfl, zm_Gl_warm hW f10, by rw [hU]; exact h3⟩⟩
  have hcap : ce + mc' ≤ x.R.cells ∧ sl + ms' ≤ x.R.slots := ⟨by rw [f8]; exact hce, by rw [f9]; exact hsl⟩
  have hroom : 2 * (F0 x.m pc ls ((as.reverse ++ rest).map (zm_c ad))).monitorRoom + ((rest.map (zm_c ad)).map fun v => v.category).sum ≤ 8 := lv_room (by rw [zm_c_cats]; exact hcat)
  rcases hlk with hlk | ⟨host, hlk⟩
  · exact zm_after (va_runS (n := as.length) (nL := y.2.2.1) (Ts := zm_T) (rest := rest.map (zm_c ad)) (own := y.2.1) ⟨f1, f2, f3, f4, f5⟩ (hc x.l ad) ⟨callB_of as.length f5 (zm_good yc Yc hcal.1) rfl rfl rfl (f5 _ hcal.2.1) (f5 _ hlk) hcal.2.2.1 hR, f5 _ hst⟩ hp rfl (by rw [List.length_map]) (h5.1.trans hl) (zm_map_st ad as rest) hroom hd hcap) h4
      (fun v M' ad' H1 locs1 hpost had hn hw hS => zm_next F hl h1 h2 h5 (hok.imp id (fun z => z v M' hpost)) had hn hw hS (k v M' hpost))
  · exact zm_after (va_runSN (n := as.length) (nL := y.2.2.1) (Ts := zm_T) (rest := rest.map (zm_c ad)) (own := y.2.1) ⟨f1, f2, f3, f4, f5⟩ (hc x.l ad) ⟨va_cnB as.length f5 (zm_good yc Yc hcal.1) rfl rfl rfl (f10.2.1 _ hlk) (f5 _ hcal.2.1) hcal.2.2.1 hR, f5 _ hst, trivial⟩ hp rfl (by rw [List.length_map]) (h5.1.trans hl) (zm_map_st ad as rest) hroom hd hcap) h4
      (fun v M' ad' H1 locs1 hpost had hn hw hS => zm_next F hl h1 h2 h5 (hok.imp id (fun z => z v M' hpost)) had hn hw hS (k v M' hpost))
theorem zA_cV {q ci : Nat} (hc : zm_Ct g yc Yc dc mc' ms' (.ref q :: as) M post) (hcal : zm_cal yc Yc as.length) (hlk : zm_lk y.2.1 idx yc) (hst : Cond.instanceMethod yc ∈ zm_T ∧ Cond.selects yc.cls yc yc ∈ zm_T) (hd : decode y.1 pc = .ok (.invokevirtual idx, 3)) (hdep : dc + 1 ≤ d) (hce : ce + mc' ≤ mc) (hsl : sl + ms' ≤ ms) (hcat : (rest.map fun v => v.category).sum ≤ 8)
    (hs : st = as.reverse ++ .ref q :: rest) (hq : M.1[q]? = some (.inl ci)) (hci : (vwCl[ci]?).map (fun r => r.1) = some yc.cls) (hok : (zm_rokL M.1.length L = true ∧ rest.all (zm_rok M.1.length) = true) ∨ ∀ v M', post v M' → M'.1.length = M.1.length) (k : ∀ v M', post v M' → zA x g y d mc ms Q (ce + mc') (sl + ms') (pc + 3) L (v.toList ++ rest) M') : zA x g y d mc ms Q ce sl pc L st M := by
  intro F hl ad H locs ls h1 h2 h3 h4 h5
  subst hs
  obtain ⟨f1, f2, f3, f4, f5, f6, f7, f8, f9, f10, f11, f12, f13, f14⟩ := id F
  have hR : dc + 1 ≤ x.R.frames ∧ 8 + (Yc.2.2.1 + 11) + 41 * dc ≤ x.R.locals := ⟨Nat.le_trans hdep f6, by have := hcal.2.2.2; omega⟩
  obtain ⟨r, hr, hrc⟩ : ∃ r, vwCl[ci]? = some r ∧ r.1 = yc.cls := by
    cases hv : vwCl[ci]? with
    | none => rw [hv] at hci; cases hci
    | some r => rw [hv] at hci; exact ⟨r, rfl, Option.some.inj hci⟩
  have hrecv := va_recv (s := x.s) f10.1 h3.2.2.1 hr (q0 := q) (zm_ws_at (g := g) (ad := ad) hq)
  rw [hrc] at hrecv
  have hp : PreV x.s H yc.cls (ad q) (va_Pc ((.ref q :: as).map (zm_c ad)) (fun U => zm_Gl g U ∧ zm_W g ad M U.heap)) (as.map (zm_c ad)) := ⟨zm_blind, hrecv, fun U hU hW => ⟨rfl, zm_Gl_warm hW f10, by rw [hU]; exact h3⟩⟩
  have hcap : ce + mc' ≤ x.R.cells ∧ sl + ms' ≤ x.R.slots := ⟨by rw [f8]; exact hce, by rw [f9]; exact hsl⟩
  have hroom : 2 * (F0 x.m pc ls ((as.reverse ++ .ref q :: rest).map (zm_c ad))).monitorRoom + ((rest.map (zm_c ad)).map fun v => v.category).sum ≤ 8 := lv_room (by rw [zm_c_cats]; exact hcat)
  rcases hlk with hlk | ⟨host, hlk⟩
  · exact zm_after (va_runV (n := as.length) (nL := y.2.2.1) (Ts := zm_T) (C := yc.cls) (b := ad q) (As := as.map (zm_c ad)) (rest := rest.map (zm_c ad)) (own := y.2.1) ⟨f1, f2, f3, f4, f5⟩ (hc x.l ad) ⟨callB_of as.length f5 (zm_good yc Yc hcal.1) rfl rfl rfl (f5 _ hcal.2.1) (f5 _ hlk) hcal.2.2.1 hR, f5 _ hst.1, f5 _ hst.2⟩ hp rfl (by rw [List.length_map]) (h5.1.trans hl) (zm_map_st ad as (.ref q :: rest)) hroom hd hcap) h4
      (fun v M' ad' H1 locs1 hpost had hn hw hS => zm_next F hl h1 h2 h5 (hok.imp id (fun z => z v M' hpost)) had hn hw hS (k v M' hpost))
  · exact zm_after (va_runVN (n := as.length) (nL := y.2.2.1) (Ts := zm_T) (C := yc.cls) (b := ad q) (As := as.map (zm_c ad)) (rest := rest.map (zm_c ad)) (own := y.2.1) ⟨f1, f2, f3, f4, f5⟩ (hc x.l ad) ⟨va_cnB as.length f5 (zm_good yc Yc hcal.1) rfl rfl rfl (f10.2.1 _ hlk) (f5 _ hcal.2.1) hcal.2.2.1 hR, f5 _ hst.1, f5 _ hst.2⟩ hp rfl (by rw [List.length_map]) (h5.1.trans hl) (zm_map_st ad as (.ref q :: rest)) hroom hd hcap) h4
      (fun v M' ad' H1 locs1 hpost had hn hw hS => zm_next F hl h1 h2 h5 (hok.imp id (fun z => z v M' hpost)) had hn hw hS (k v M' hpost))
end ZF
/-! ===== contracts of methods that make nothing ===== -/
abbrev zm_I : Type := Nat → Nat → Int32
abbrev zm_J : Type := Nat → Nat → Int64
abbrev zm_R : Type := Nat → Nat → Option Nat
def zm_pi (sh : List zm_K) (P : Int32 → zm_I → zm_J → zm_R → Prop) (v : Option Value) (M' : zm_M) : Prop := ∃ (r : Int32) (gi : zm_I) (gl : zm_J) (gr : zm_R), v = some (.int r) ∧ M' = (sh, gi, gl, gr) ∧ P r gi gl gr
def zm_pl (sh : List zm_K) (P : Int64 → zm_I → zm_J → zm_R → Prop) (v : Option Value) (M' : zm_M) : Prop := ∃ (r : Int64) (gi : zm_I) (gl : zm_J) (gr : zm_R), v = some (.long r) ∧ M' = (sh, gi, gl, gr) ∧ P r gi gl gr
def zm_pv (sh : List zm_K) (P : zm_I → zm_J → zm_R → Prop) (v : Option Value) (M' : zm_M) : Prop := ∃ (gi : zm_I) (gl : zm_J) (gr : zm_R), v = none ∧ M' = (sh, gi, gl, gr) ∧ P gi gl gr
def zC_i (g : zm_G) (y : MethodName) (Y : zm_Y) (d : Nat) (as : List Value) (sh : List zm_K) (gi : zm_I) (gl : zm_J) (gr : zm_R) (P : Int32 → zm_I → zm_J → zm_R → Prop) : Prop := zm_Ct g y Y d 0 0 as (sh, gi, gl, gr) (zm_pi sh P)
def zC_l (g : zm_G) (y : MethodName) (Y : zm_Y) (d : Nat) (as : List Value) (sh : List zm_K) (gi : zm_I) (gl : zm_J) (gr : zm_R) (P : Int64 → zm_I → zm_J → zm_R → Prop) : Prop := zm_Ct g y Y d 0 0 as (sh, gi, gl, gr) (zm_pl sh P)
def zC_v (g : zm_G) (y : MethodName) (Y : zm_Y) (d : Nat) (as : List Value) (sh : List zm_K) (gi : zm_I) (gl : zm_J) (gr : zm_R) (P : zm_I → zm_J → zm_R → Prop) : Prop := zm_Ct g y Y d 0 0 as (sh, gi, gl, gr) (zm_pv sh P)
/-- the judgement inside such a method -/
abbrev zB_i (x : zm_X) (g : zm_G) (y : zm_Y) (d : Nat) (sh : List zm_K) (P : Int32 → zm_I → zm_J → zm_R → Prop) (pc : Nat) (L : List (Option Value)) (st : List Value) (gi : zm_I) (gl : zm_J) (gr : zm_R) : Prop := zA x g y d 0 0 (zm_Qx g x 0 0 (zm_pi sh P)) 0 0 pc L st (sh, gi, gl, gr)
abbrev zB_l (x : zm_X) (g : zm_G) (y : zm_Y) (d : Nat) (sh : List zm_K) (P : Int64 → zm_I → zm_J → zm_R → Prop) (pc : Nat) (L : List (Option Value)) (st : List Value) (gi : zm_I) (gl : zm_J) (gr : zm_R) : Prop := zA x g y d 0 0 (zm_Qx g x 0 0 (zm_pl sh P)) 0 0 pc L st (sh, gi, gl, gr)
abbrev zB_v (x : zm_X) (g : zm_G) (y : zm_Y) (d : Nat) (sh : List zm_K) (P : zm_I → zm_J → zm_R → Prop) (pc : Nat) (L : List (Option Value)) (st : List Value) (gi : zm_I) (gl : zm_J) (gr : zm_R) : Prop := zA x g y d 0 0 (zm_Qx g x 0 0 (zm_pv sh P)) 0 0 pc L st (sh, gi, gl, gr)
section ZG
variable {x : zm_X} {g : zm_G} {y : zm_Y} {d mc ms : Nat} {Q : State → Prop} {ce sl pc : Nat} {L : List (Option Value)} {st as rest : List Value} {sh : List zm_K} {gi : zm_I} {gl : zm_J} {gr : zm_R} {yc : MethodName} {Yc : zm_Y} {dc idx : Nat}
theorem zC_i_of {P : Int32 → zm_I → zm_J → zm_R → Prop} (L : List (Option Value)) (hy : plainName yc.cls = true) (hcls : yc.cls = y.2.1) (hL : zm_L0 as y.2.2.1 = L) (hn : (zm_sl as).length ≤ y.2.2.1) (k : ∀ x : zm_X, zB_i x g y d sh P 0 L [] gi gl gr) : zC_i g yc y d as sh gi gl gr P := zm_Ct_of L hy hcls hL hn (fun x _ _ => k x)
theorem zC_l_of {P : Int64 → zm_I → zm_J → zm_R → Prop} (L : List (Option Value)) (hy : plainName yc.cls = true) (hcls : yc.cls = y.2.1) (hL : zm_L0 as y.2.2.1 = L) (hn : (zm_sl as).length ≤ y.2.2.1) (k : ∀ x : zm_X, zB_l x g y d sh P 0 L [] gi gl gr) : zC_l g yc y d as sh gi gl gr P := zm_Ct_of L hy hcls hL hn (fun x _ _ => k x)
theorem zC_v_of {P : zm_I → zm_J → zm_R → Prop} (L : List (Option Value)) (hy : plainName yc.cls = true) (hcls : yc.cls = y.2.1) (hL : zm_L0 as y.2.2.1 = L) (hn : (zm_sl as).length ≤ y.2.2.1) (k : ∀ x : zm_X, zB_v x g y d sh P 0 L [] gi gl gr) : zC_v g yc y d as sh gi gl gr P := zm_Ct_of L hy hcls hL hn (fun x _ _ => k x)
theorem zB_iret {P : Int32 → zm_I → zm_J → zm_R → Prop} {v : Int32} (hr : y.2.2.2 = some .int) (hd : decode y.1 pc = .ok (.ireturn, 1)) (hp : P v gi gl gr) : zB_i x g y d sh P pc L [.int v] gi gl gr := zA_iret hr hd ⟨v, gi, gl, gr, rfl, rfl, hp⟩
theorem zB_zret {P : Int32 → zm_I → zm_J → zm_R → Prop} {v : Int32} (hr : y.2.2.2 = some .boolean) (hd : decode y.1 pc = .ok (.ireturn, 1)) (hv : v = 0 ∨ v = 1) (hp : P v gi gl gr) : zB_i x g y d sh P pc L [.int v] gi gl gr := zA_zret hr hd hv ⟨v, gi, gl, gr, rfl, rfl, hp⟩
theorem zB_lret {P : Int64 → zm_I → zm_J → zm_R → Prop} {v : Int64} (hr : y.2.2.2 = some .long) (hd : decode y.1 pc = .ok (.lreturn, 1)) (hp : P v gi gl gr) : zB_l x g y d sh P pc L [.long v] gi gl gr := zA_lret hr hd ⟨v, gi, gl, gr, rfl, rfl, hp⟩
theorem zB_vret {P : zm_I → zm_J → zm_R → Prop} (hr : y.2.2.2 = none) (hd : decode y.1 pc = .ok (.return_, 1)) (hp : P gi gl gr) : zB_v x g y d sh P pc L [] gi gl gr := zA_vret hr hd ⟨gi, gl, gr, rfl, rfl, hp⟩
theorem zA_cSi {P : Int32 → zm_I → zm_J → zm_R → Prop} (hc : zC_i g yc Yc dc as sh gi gl gr P) (hcal : zm_cal yc Yc as.length) (hst : Cond.static yc ∈ zm_T) (hlk : zm_lk y.2.1 idx yc) (hd : decode y.1 pc = .ok (.invokestatic idx, 3)) (hdep : dc + 1 ≤ d) (hcat : (rest.map fun v => v.category).sum ≤ 8) (hs : st = as.reverse ++ rest) (hce : ce ≤ mc) (hsl : sl ≤ ms)
    (k : ∀ r gi' gl' gr', P r gi' gl' gr' → zA x g y d mc ms Q ce sl (pc + 3) L (.int r :: rest) (sh, gi', gl', gr')) : zA x g y d mc ms Q ce sl pc L st (sh, gi, gl, gr) :=
  zA_cS (post := zm_pi sh P) (mc' := 0) (ms' := 0) hc hcal hlk hst hd hdep hce hsl hcat hs (Or.inr (fun v M' h => by obtain ⟨_, _, _, _, -, rfl, -⟩ := h; rfl)) (fun v M' h => by obtain ⟨r, gi', gl', gr', rfl, rfl, h⟩ := h; exact k r gi' gl' gr' h)
theorem zA_cVi {P : Int32 → zm_I → zm_J → zm_R → Prop} {q ci : Nat} (hc : zC_i g yc Yc dc (.ref q :: as) sh gi gl gr P) (hcal : zm_cal yc Yc as.length) (hst : Cond.instanceMethod yc ∈ zm_T ∧ Cond.selects yc.cls yc yc ∈ zm_T) (hlk : zm_lk y.2.1 idx yc) (hd : decode y.1 pc = .ok (.invokevirtual idx, 3)) (hdep : dc + 1 ≤ d) (hcat : (rest.map fun v => v.category).sum ≤ 8) (hs : st = as.reverse ++ .ref q :: rest) (hce : ce ≤ mc) (hsl : sl ≤ ms) (hq : sh[q]? = some (.inl ci)) (hci : (vwCl[ci]?).map (fun r => r.1) = some yc.cls)
    (k : ∀ r gi' gl' gr', P r gi' gl' gr' → zA x g y d mc ms Q ce sl (pc + 3) L (.int r :: rest) (sh, gi', gl', gr')) : zA x g y d mc ms Q ce sl pc L st (sh, gi, gl, gr) :=
  zA_cV (post := zm_pi sh P) (mc' := 0) (ms' := 0) hc hcal hlk hst hd hdep hce hsl hcat hs hq hci (Or.inr (fun v M' h => by obtain ⟨_, _, _, _, -, rfl, -⟩ := h; rfl)) (fun v M' h => by obtain ⟨r, gi', gl', gr', rfl, rfl, h⟩ := h; exact k r gi' gl' gr' h)
theorem zA_cSl {P : Int64 → zm_I → zm_J → zm_R → Prop} (hc : zC_l g yc Yc dc as sh gi gl gr P) (hcal : zm_cal yc Yc as.length) (hst : Cond.static yc ∈ zm_T) (hlk : zm_lk y.2.1 idx yc) (hd : decode y.1 pc = .ok (.invokestatic idx, 3)) (hdep : dc + 1 ≤ d) (hcat : (rest.map fun v => v.category).sum ≤ 8) (hs : st = as.reverse ++ rest) (hce : ce ≤ mc) (hsl : sl ≤ ms)
    (k : ∀ r gi' gl' gr', P r gi' gl' gr' → zA x g y d mc ms Q ce sl (pc + 3) L (.long r :: rest) (sh, gi', gl', gr')) : zA x g y d mc ms Q ce sl pc L st (sh, gi, gl, gr) :=
  zA_cS (post := zm_pl sh P) (mc' := 0) (ms' := 0) hc hcal hlk hst hd hdep hce hsl hcat hs (Or.inr (fun v M' h => by obtain ⟨_, _, _, _, -, rfl, -⟩ := h; rfl)) (fun v M' h => by obtain ⟨r, gi', gl', gr', rfl, rfl, h⟩ := h; exact k r gi' gl' gr' h)
theorem zA_cVl {P : Int64 → zm_I → zm_J → zm_R → Prop} {q ci : Nat} (hc : zC_l g yc Yc dc (.ref q :: as) sh gi gl gr P) (hcal : zm_cal yc Yc as.length) (hst : Cond.instanceMethod yc ∈ zm_T ∧ Cond.selects yc.cls yc yc ∈ zm_T) (hlk : zm_lk y.2.1 idx yc) (hd : decode y.1 pc = .ok (.invokevirtual idx, 3)) (hdep : dc + 1 ≤ d) (hcat : (rest.map fun v => v.category).sum ≤ 8) (hs : st = as.reverse ++ .ref q :: rest) (hce : ce ≤ mc) (hsl : sl ≤ ms) (hq : sh[q]? = some (.inl ci)) (hci : (vwCl[ci]?).map (fun r => r.1) = some yc.cls)
    (k : ∀ r gi' gl' gr', P r gi' gl' gr' → zA x g y d mc ms Q ce sl (pc + 3) L (.long r :: rest) (sh, gi', gl', gr')) : zA x g y d mc ms Q ce sl pc L st (sh, gi, gl, gr) :=
  zA_cV (post := zm_pl sh P) (mc' := 0) (ms' := 0) hc hcal hlk hst hd hdep hce hsl hcat hs hq hci (Or.inr (fun v M' h => by obtain ⟨_, _, _, _, -, rfl, -⟩ := h; rfl)) (fun v M' h => by obtain ⟨r, gi', gl', gr', rfl, rfl, h⟩ := h; exact k r gi' gl' gr' h)
theorem zA_cSv {P : zm_I → zm_J → zm_R → Prop} (hc : zC_v g yc Yc dc as sh gi gl gr P) (hcal : zm_cal yc Yc as.length) (hst : Cond.static yc ∈ zm_T) (hlk : zm_lk y.2.1 idx yc) (hd : decode y.1 pc = .ok (.invokestatic idx, 3)) (hdep : dc + 1 ≤ d) (hcat : (rest.map fun v => v.category).sum ≤ 8) (hs : st = as.reverse ++ rest) (hce : ce ≤ mc) (hsl : sl ≤ ms)
    (k : ∀ gi' gl' gr', P gi' gl' gr' → zA x g y d mc ms Q ce sl (pc + 3) L (rest) (sh, gi', gl', gr')) : zA x g y d mc ms Q ce sl pc L st (sh, gi, gl, gr) :=
  zA_cS (post := zm_pv sh P) (mc' := 0) (ms' := 0) hc hcal hlk hst hd hdep hce hsl hcat hs (Or.inr (fun v M' h => by obtain ⟨_, _, _, -, rfl, -⟩ := h; rfl)) (fun v M' h => by obtain ⟨gi', gl', gr', rfl, rfl, h⟩ := h; exact k gi' gl' gr' h)
theorem zA_cVv {P : zm_I → zm_J → zm_R → Prop} {q ci : Nat} (hc : zC_v g yc Yc dc (.ref q :: as) sh gi gl gr P) (hcal : zm_cal yc Yc as.length) (hst : Cond.instanceMethod yc ∈ zm_T ∧ Cond.selects yc.cls yc yc ∈ zm_T) (hlk : zm_lk y.2.1 idx yc) (hd : decode y.1 pc = .ok (.invokevirtual idx, 3)) (hdep : dc + 1 ≤ d) (hcat : (rest.map fun v => v.category).sum ≤ 8) (hs : st = as.reverse ++ .ref q :: rest) (hce : ce ≤ mc) (hsl : sl ≤ ms) (hq : sh[q]? = some (.inl ci)) (hci : (vwCl[ci]?).map (fun r => r.1) = some yc.cls)
    (k : ∀ gi' gl' gr', P gi' gl' gr' → zA x g y d mc ms Q ce sl (pc + 3) L (rest) (sh, gi', gl', gr')) : zA x g y d mc ms Q ce sl pc L st (sh, gi, gl, gr) :=
  zA_cV (post := zm_pv sh P) (mc' := 0) (ms' := 0) hc hcal hlk hst hd hdep hce hsl hcat hs hq hci (Or.inr (fun v M' h => by obtain ⟨_, _, _, -, rfl, -⟩ := h; rfl)) (fun v M' h => by obtain ⟨gi', gl', gr', rfl, rfl, h⟩ := h; exact k gi' gl' gr' h)
end ZG

