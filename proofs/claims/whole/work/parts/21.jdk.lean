/-! methods of the JDK: no native row stands for them -/
theorem zm_ofWF {l : Launch} {y : MethodName} {ws ws' : List Cond} {rm : Room} {Pc : Array Value → State → Prop} {Qc : Array Value → State → Outcome → State → Prop} {mc ms : Nat} {free : Addr → Prop} {cc : ByteArray} {maxL : Nat} {ret : Option FieldType}
    (hy : plainFor y = true) (hw : ws = Cond.code y cc maxL ret :: ws')
    (body : ∀ p e s m args below meth c s₁, BodyLoose p l y (headSpec ws rm) cc maxL ret e s m args below meth c s₁ → c.maxLocals = maxL → Pc args s →
      W p l e (headSpec ws rm).room s m args below meth c s.heap [] 0 0 (MQ below Qc args s mc ms free) (entryFrame m args maxL)) : Met l y ws rm Pc Qc mc ms free := by
  refine MetFree.of_bodySF (code := cc) (maxLocals := maxL) (ret := ret) hy ?_ ?_
  · intro args s m h hn
    obtain ⟨meth, c, h1, h2, h3, h4, h5, h6, -, -⟩ := Cond.code_spec hn (atoms_spec (ws := ws) h _ (by rw [hw]; exact List.mem_cons_self))
    exact ⟨meth, c, h1, h2, h3, h4, h5, h6⟩
  · intro p e s m args below meth c s₁ B hml hP _
    have hh0 : s₁.heap = s.heap := by rw [B.state]; rfl
    obtain ⟨t, a1, o, b1, b2, b3⟩ := body p e s m args below meth c s₁ B hml hP s₁ hh0 (Stand.of_body B)
    exact ⟨t, o, a1, b1, b2, ⟨b3.1, b3.2⟩⟩
theorem zm_Ct_ofF {g : zm_G} {y : MethodName} {Y : zm_Y} {d mc ms : Nat} {as : List Value} {M : zm_M} {post : Option Value → zm_M → Prop} (L : List (Option Value)) (hy : plainFor y = true) (hcls : y.cls = Y.2.1) (hL : zm_L0 as Y.2.2.1 = L) (hn : (zm_sl as).length ≤ Y.2.2.1)
    (k : ∀ x : zm_X, x.n = M.1.length → x.meth.name = y.name → zA x g Y d mc ms (zm_Qx g x mc ms post) 0 0 0 L [] M) : zm_Ct g y Y d mc ms as M post := by
  intro l ad
  refine zm_ofWF (cc := Y.1) (maxL := Y.2.2.1) (ret := Y.2.2.2) hy rfl ?_
  intro p e s m args below meth c s₁ B hml hv
  obtain ⟨rfl, hG, hw⟩ := hv
  have hts := atoms_spec (ws := zm_ws0 y Y) B.pre
  have hown : s.vm.findClass y.cls = some m.cls := findClass_of_methodNamed B.named
  have hin : meth.name = y.name := (name_of_methodNamed B.named B.method).1
  rw [lg_entry_eq]
  have hk := k (p, l, e, (headSpec (zm_ws0 y Y) (zm_rm d mc ms)).room, s, m, (as.map (zm_c ad)).toArray, below, meth, c, ad, M.1.length) rfl hin
    ⟨B.exec, B.bytes, hml, by rw [← hcls]; exact hown, fun w hw => hts w (List.mem_cons_of_mem _ hw), Nat.le_refl _, Nat.le_refl _, rfl, rfl, hG, hw.1, hw.2.1, B.notSynchronized, B.returns⟩
  refine hk ?_ ad s.heap [] _ (fun _ _ => rfl) (Nat.le_refl _) hw va_S.rf (by rw [← hL]; exact zm_L0_ok ad as hn)
  rw [← hL]
  unfold zm_L0
  rw [List.length_append, List.length_replicate]
  omega
section ZGF
variable {g : zm_G} {y : zm_Y} {d : Nat} {as : List Value} {sh : List zm_K} {gi : zm_I} {gl : zm_J} {gr : zm_R} {yc : MethodName}
theorem zC_i_ofF {P : Int32 → zm_I → zm_J → zm_R → Prop} (L : List (Option Value)) (hy : plainFor yc = true) (hcls : yc.cls = y.2.1) (hL : zm_L0 as y.2.2.1 = L) (hn : (zm_sl as).length ≤ y.2.2.1) (k : ∀ x : zm_X, zB_i x g y d sh P 0 L [] gi gl gr) : zC_i g yc y d as sh gi gl gr P := zm_Ct_ofF L hy hcls hL hn (fun x _ _ => k x)
theorem zC_l_ofF {P : Int64 → zm_I → zm_J → zm_R → Prop} (L : List (Option Value)) (hy : plainFor yc = true) (hcls : yc.cls = y.2.1) (hL : zm_L0 as y.2.2.1 = L) (hn : (zm_sl as).length ≤ y.2.2.1) (k : ∀ x : zm_X, zB_l x g y d sh P 0 L [] gi gl gr) : zC_l g yc y d as sh gi gl gr P := zm_Ct_ofF L hy hcls hL hn (fun x _ _ => k x)
theorem zC_v_ofF {P : zm_I → zm_J → zm_R → Prop} (L : List (Option Value)) (hy : plainFor yc = true) (hcls : yc.cls = y.2.1) (hL : zm_L0 as y.2.2.1 = L) (hn : (zm_sl as).length ≤ y.2.2.1) (k : ∀ x : zm_X, zB_v x g y d sh P 0 L [] gi gl gr) : zC_v g yc y d as sh gi gl gr P := zm_Ct_ofF L hy hcls hL hn (fun x _ _ => k x)
end ZGF

/-! ===== stores by name ===== -/
def zs (gi : zm_I) (q j : Nat) (v : Int32) : zm_I := va_up gi q (upd (gi q) j v)
def zsL (gl : zm_J) (q j : Nat) (v : Int64) : zm_J := va_up gl q (vp_updL (gl q) j v)
def zi (x : Int32) : Nat := x.toNatClampNeg
theorem zi_nI {n : Nat} (h : n < 2 ^ 31) : zi (nI n) = n := nI_clamp h
theorem zs_eq (gi : zm_I) (q j : Nat) (v : Int32) : zs gi q j v q j = v := by unfold zs; rw [va_up_self, pk_us]
theorem zs_nj {gi : zm_I} {q j i : Nat} {v : Int32} (h : i ≠ j) : zs gi q j v q i = gi q i := by unfold zs; rw [va_up_self, pk_un h]
theorem zs_nq {gi : zm_I} {q j a : Nat} {v : Int32} (h : a ≠ q) : zs gi q j v a = gi a := zm_une h
theorem zsL_eq (gl : zm_J) (q j : Nat) (v : Int64) : zsL gl q j v q j = v := by unfold zsL; rw [va_up_self, pk_uLs]
theorem zsL_nj {gl : zm_J} {q j i : Nat} {v : Int64} (h : i ≠ j) : zsL gl q j v q i = gl q i := by unfold zsL; rw [va_up_self, pk_uLn h]
theorem zsL_nq {gl : zm_J} {q j a : Nat} {v : Int64} (h : a ≠ q) : zsL gl q j v a = gl a := zm_une h
theorem zs_at (gi : zm_I) (q j : Nat) (v : Int32) (a i : Nat) : zs gi q j v a i = if a = q ∧ i = j then v else gi a i := by
  by_cases h : a = q
  · subst h
    by_cases h2 : i = j
    · subst h2; rw [zs_eq, if_pos ⟨rfl, rfl⟩]
    · rw [zs_nj h2, if_neg (fun z => h2 z.2)]
  · rw [zs_nq h, if_neg (fun z => h z.1)]
def zmax (a b : Int32) : Int32 := if a < b then b else a
def zmin (a b : Int32) : Int32 := if b < a then b else a
section ZS
variable {x : zm_X} {g : zm_G} {y : zm_Y} {d mc ms : Nat} {Q : State → Prop} {ce sl pc : Nat} {L : List (Option Value)} {st : List Value} {sh : List zm_K} {gi : zm_I} {gl : zm_J} {gr : zm_R}
theorem zS_putI {idx ci j q : Nat} {v : Int32} (hq : sh[q]? = some (.inl ci)) (hf : zm_gf y.2.1 idx ci j) (hd : decode y.1 pc = .ok (.putfield idx, 3)) (hfin : zm_nfin ci j = true) (hty : zm_tyOf ci j = .int)
    (k : zA x g y d mc ms Q ce sl (pc + 3) L st (sh, zs gi q j v, gl, gr)) : zA x g y d mc ms Q ce sl pc L (.int v :: .ref q :: st) (sh, gi, gl, gr) := zA_putI hq hf hd hfin hty k
theorem zS_putZ {idx ci j q : Nat} {v : Int32} (hq : sh[q]? = some (.inl ci)) (hf : zm_gf y.2.1 idx ci j) (hd : decode y.1 pc = .ok (.putfield idx, 3)) (hfin : zm_nfin ci j = true) (hty : zm_tyOf ci j = .boolean) (hv : v = 0 ∨ v = 1)
    (k : zA x g y d mc ms Q ce sl (pc + 3) L st (sh, zs gi q j v, gl, gr)) : zA x g y d mc ms Q ce sl pc L (.int v :: .ref q :: st) (sh, gi, gl, gr) := zA_putZ hq hf hd hfin hty hv k
theorem zS_iast {q n : Nat} {i v : Int32} (j : Nat) (hq : sh[q]? = some (.inr (.int, n))) (hd : decode y.1 pc = .ok (.iastore, 1)) (hj : i = nI j) (hn : j < n) (hb : n < 2 ^ 31)
    (k : zA x g y d mc ms Q ce sl (pc + 1) L st (sh, zs gi q j v, gl, gr)) : zA x g y d mc ms Q ce sl pc L (.int v :: .int i :: .ref q :: st) (sh, gi, gl, gr) := zA_iast j hq hd hj hn hb k
theorem zS_bast {q n : Nat} {i v : Int32} (j : Nat) (hq : sh[q]? = some (.inr (.byte, n))) (hd : decode y.1 pc = .ok (.bastore, 1)) (hj : i = nI j) (hn : j < n) (hb : n < 2 ^ 31)
    (k : zA x g y d mc ms Q ce sl (pc + 1) L st (sh, zs gi q j v.toInt8.toInt32, gl, gr)) : zA x g y d mc ms Q ce sl pc L (.int v :: .int i :: .ref q :: st) (sh, gi, gl, gr) := zA_bast j hq hd hj hn hb k
theorem zS_zast {q n : Nat} {i v : Int32} (j : Nat) (hq : sh[q]? = some (.inr (.boolean, n))) (hd : decode y.1 pc = .ok (.bastore, 1)) (hj : i = nI j) (hn : j < n) (hb : n < 2 ^ 31) (hv : v = 0 ∨ v = 1)
    (k : zA x g y d mc ms Q ce sl (pc + 1) L st (sh, zs gi q j v, gl, gr)) : zA x g y d mc ms Q ce sl pc L (.int v :: .int i :: .ref q :: st) (sh, gi, gl, gr) := zA_zast j hq hd hj hn hb hv k
theorem zS_last {q n : Nat} {i : Int32} {v : Int64} (j : Nat) (hq : sh[q]? = some (.inr (.long, n))) (hd : decode y.1 pc = .ok (.lastore, 1)) (hj : i = nI j) (hn : j < n) (hb : n < 2 ^ 31)
    (k : zA x g y d mc ms Q ce sl (pc + 1) L st (sh, gi, zsL gl q j v, gr)) : zA x g y d mc ms Q ce sl pc L (.long v :: .int i :: .ref q :: st) (sh, gi, gl, gr) := zA_last j hq hd hj hn hb k
end ZS

theorem rtr_fa (r : Nat) {v : Nat} (h : v < 8) : zRT r 4 v = some (5 + v) := match v, h with
  | 0, _ => rfl
  | 1, _ => rfl
  | 2, _ => rfl
  | 3, _ => rfl
  | 4, _ => rfl
  | 5, _ => rfl
  | 6, _ => rfl
  | 7, _ => rfl
  | k + 8, h => absurd h (by omega)
theorem shr_fa {v : Nat} (h : v < 8) : zSH[5 + v]? = some (.inr (.int, 8)) := match v, h with
  | 0, _ => rfl
  | 1, _ => rfl
  | 2, _ => rfl
  | 3, _ => rfl
  | 4, _ => rfl
  | 5, _ => rfl
  | 6, _ => rfl
  | 7, _ => rfl
  | k + 8, h => absurd h (by omega)
theorem rtr_fe (r : Nat) {v : Nat} (h : v < 4) : zRT r 13 v = some (14 + v) := match v, h with
  | 0, _ => rfl
  | 1, _ => rfl
  | 2, _ => rfl
  | 3, _ => rfl
  | k + 4, h => absurd h (by omega)
theorem shr_fe {v : Nat} (h : v < 4) : zSH[14 + v]? = some (.inr (.int, 64)) := match v, h with
  | 0, _ => rfl
  | 1, _ => rfl
  | 2, _ => rfl
  | 3, _ => rfl
  | k + 4, h => absurd h (by omega)
theorem rtr_pf (r : Nat) {v : Nat} (h : v < 4) : zRT r 22 v = some (23 + v) := match v, h with
  | 0, _ => rfl
  | 1, _ => rfl
  | 2, _ => rfl
  | 3, _ => rfl
  | k + 4, h => absurd h (by omega)
theorem shr_pf {v : Nat} (h : v < 4) : zSH[23 + v]? = some (.inr (.int, 7)) := match v, h with
  | 0, _ => rfl
  | 1, _ => rfl
  | 2, _ => rfl
  | 3, _ => rfl
  | k + 4, h => absurd h (by omega)
theorem rtr_to (r : Nat) {v : Nat} (h : v < 7) : zRT r 58 v = some (59 + v) := match v, h with
  | 0, _ => rfl
  | 1, _ => rfl
  | 2, _ => rfl
  | 3, _ => rfl
  | 4, _ => rfl
  | 5, _ => rfl
  | 6, _ => rfl
  | k + 7, h => absurd h (by omega)
theorem shr_to {v : Nat} (h : v < 7) : zSH[59 + v]? = some (.inr (.int, 27)) := match v, h with
  | 0, _ => rfl
  | 1, _ => rfl
  | 2, _ => rfl
  | 3, _ => rfl
  | 4, _ => rfl
  | 5, _ => rfl
  | 6, _ => rfl
  | k + 7, h => absurd h (by omega)
theorem ct_max (g : zm_G) {sh : List zm_K} (gi : zm_I) (gl : zm_J) (gr : zm_R) (a b : Int32)  : zC_i g yJ9_max_7cf53 mJ9_max_7cf53 0 [.int a, .int b] sh gi gl gr (fun z gi' gl' gr' => z = (zmax a b) ∧ gi' = gi ∧ gl' = gl ∧ gr' = gr) := by
  refine zC_i_ofF [some (.int a), some (.int b)] (by decide +kernel) rfl rfl (Nat.le_of_ble_eq_true rfl) (fun x => ?_)
  refine zA_iload_0 dJ9_max_7cf53_0 ?_
  refine zA_iload_1 dJ9_max_7cf53_1 ?_
  refine zA_icmp_lt 9 dJ9_max_7cf53_2 (by decide) (fun h0 => ?_) (fun h0 => ?_)
  · refine zA_iload_1 dJ9_max_7cf53_9 ?_
    exact zB_iret rfl dJ9_max_7cf53_10 (⟨(if_pos h0).symm, rfl, rfl, rfl⟩)
  · refine zA_iload_0 dJ9_max_7cf53_5 ?_
    refine zA_goto 10 dJ9_max_7cf53_6 (by decide) ?_
    exact zB_iret rfl dJ9_max_7cf53_10 (⟨(if_neg h0).symm, rfl, rfl, rfl⟩)
theorem ct_min (g : zm_G) {sh : List zm_K} (gi : zm_I) (gl : zm_J) (gr : zm_R) (a b : Int32)  : zC_i g yJ9_min_7cf53 mJ9_min_7cf53 0 [.int a, .int b] sh gi gl gr (fun z gi' gl' gr' => z = (zmin a b) ∧ gi' = gi ∧ gl' = gl ∧ gr' = gr) := by
  refine zC_i_ofF [some (.int a), some (.int b)] (by decide +kernel) rfl rfl (Nat.le_of_ble_eq_true rfl) (fun x => ?_)
  refine zA_iload_0 dJ9_min_7cf53_0 ?_
  refine zA_iload_1 dJ9_min_7cf53_1 ?_
  refine zA_icmp_gt 9 dJ9_min_7cf53_2 (by decide) (fun h0 => ?_) (fun h0 => ?_)
  · refine zA_iload_1 dJ9_min_7cf53_9 ?_
    exact zB_iret rfl dJ9_min_7cf53_10 (⟨(if_pos h0).symm, rfl, rfl, rfl⟩)
  · refine zA_iload_0 dJ9_min_7cf53_5 ?_
    refine zA_goto 10 dJ9_min_7cf53_6 (by decide) ?_
    exact zB_iret rfl dJ9_min_7cf53_10 (⟨(if_neg h0).symm, rfl, rfl, rfl⟩)
theorem ct_maxL (g : zm_G) {sh : List zm_K} (gi : zm_I) (gl : zm_J) (gr : zm_R) (a b : Int64)  : zC_l g yJ9_max_f86c9 mJ9_max_f86c9 0 [.long a, .long b] sh gi gl gr (fun z gi' gl' gr' => z = (if lg_cmp a b < 0 then b else a) ∧ gi' = gi ∧ gl' = gl ∧ gr' = gr) := by
  refine zC_l_ofF [some (.long a), none, some (.long b), none] (by decide +kernel) rfl rfl (Nat.le_of_ble_eq_true rfl) (fun x => ?_)
  refine zA_lload_0 dJ9_max_f86c9_0 ?_
  refine zA_lload_2 dJ9_max_f86c9_1 ?_
  refine zA_lcmp dJ9_max_f86c9_2 ?_
  refine zA_if_lt 10 dJ9_max_f86c9_3 (by decide) (fun h0 => ?_) (fun h0 => ?_)
  · refine zA_lload_2 dJ9_max_f86c9_10 ?_
    exact zB_lret rfl dJ9_max_f86c9_11 (⟨(if_pos h0).symm, rfl, rfl, rfl⟩)
  · refine zA_lload_0 dJ9_max_f86c9_6 ?_
    refine zA_goto 11 dJ9_max_f86c9_7 (by decide) ?_
    exact zB_lret rfl dJ9_max_f86c9_11 (⟨(if_neg h0).symm, rfl, rfl, rfl⟩)
theorem ct_minL (g : zm_G) {sh : List zm_K} (gi : zm_I) (gl : zm_J) (gr : zm_R) (a b : Int64)  : zC_l g yJ9_min_f86c9 mJ9_min_f86c9 0 [.long a, .long b] sh gi gl gr (fun z gi' gl' gr' => z = (if 0 < lg_cmp a b then b else a) ∧ gi' = gi ∧ gl' = gl ∧ gr' = gr) := by
  refine zC_l_ofF [some (.long a), none, some (.long b), none] (by decide +kernel) rfl rfl (Nat.le_of_ble_eq_true rfl) (fun x => ?_)
  refine zA_lload_0 dJ9_min_f86c9_0 ?_
  refine zA_lload_2 dJ9_min_f86c9_1 ?_
  refine zA_lcmp dJ9_min_f86c9_2 ?_
  refine zA_if_gt 10 dJ9_min_f86c9_3 (by decide) (fun h0 => ?_) (fun h0 => ?_)
  · refine zA_lload_2 dJ9_min_f86c9_10 ?_
    exact zB_lret rfl dJ9_min_f86c9_11 (⟨(if_pos h0).symm, rfl, rfl, rfl⟩)
  · refine zA_lload_0 dJ9_min_f86c9_6 ?_
    refine zA_goto 11 dJ9_min_f86c9_7 (by decide) ?_
    exact zB_lret rfl dJ9_min_f86c9_11 (⟨(if_neg h0).symm, rfl, rfl, rfl⟩)
def zfill (f : Nat → Int32) (n : Nat) (v : Int32) : Nat → Int32 := fun j => if j < n then v else f j
theorem zfill_0 (f : Nat → Int32) (v : Int32) : zfill f 0 v = f := funext fun j => if_neg (Nat.not_lt_zero j)
theorem zfill_s (f : Nat → Int32) (n : Nat) (v : Int32) : upd (zfill f n v) n v = zfill f (n + 1) v := by
  funext j
  unfold upd zfill
  by_cases h : j = n
  · rw [if_pos h, if_pos (by omega)]
  · rw [if_neg h]
    by_cases h2 : j < n
    · rw [if_pos h2, if_pos (by omega)]
    · rw [if_neg h2, if_neg (by omega)]
theorem ct_fill (g : zm_G) {sh : List zm_K} (gi : zm_I) (gl : zm_J) (gr : zm_R) {q n : Nat} (v : Int32) (hq : sh[q]? = some (.inr (.int, n))) (hn : n < 2 ^ 31)  : zC_v g yJ7_fill_53178 mJ7_fill_53178 0 [.ref q, .int v] sh gi gl gr (fun gi' gl' gr' => gi' = va_up gi q (zfill (gi q) n v) ∧ gl' = gl ∧ gr' = gr) := by
  refine zC_v_ofF [some (.ref q), some (.int v), none, none] (by decide +kernel) rfl rfl (Nat.le_of_ble_eq_true rfl) (fun x => ?_)
  refine zA_iconst (nI 0) dJ7_fill_53178_0 ic_0 ?_
  refine zA_istore_2 dJ7_fill_53178_1 rfl ?_
  refine zA_aload_0 dJ7_fill_53178_2 ?_
  refine zA_alen 0 hq (fun _ => rfl) dJ7_fill_53178_3 rfl ?_
  refine zA_istore_3 dJ7_fill_53178_4 rfl ?_
  have key : ∀ (m i : Nat), i + m = n → zB_v x g mJ7_fill_53178 0 sh (fun gi' gl' gr' => gi' = va_up gi q (zfill (gi q) n v) ∧ gl' = gl ∧ gr' = gr) (0 + 1 + 1 + 1 + 1 + 1) [some (.ref q), some (.int v), some (.int (nI i)), some (.int (nI n))] [] (va_up gi q (zfill (gi q) i v)) gl gr := by
    intro m
    induction m with
    | zero =>
      intro i hi
      refine zA_iload_2 dJ7_fill_53178_5 ?_
      refine zA_iload_3 dJ7_fill_53178_6 ?_
      refine zA_icmp_geN 20 dJ7_fill_53178_7 (by decide) (by omega) (by omega) (fun h => ?_) (fun h => ?_)
      · have e : i = n := by omega
        subst e
        exact zB_vret rfl dJ7_fill_53178_20 (⟨rfl, rfl, rfl⟩)
      · exact absurd h (by omega)
    | succ m ih =>
      intro i hi
      refine zA_iload_2 dJ7_fill_53178_5 ?_
      refine zA_iload_3 dJ7_fill_53178_6 ?_
      refine zA_icmp_geN 20 dJ7_fill_53178_7 (by decide) (by omega) (by omega) (fun h => ?_) (fun h => ?_)
      · exact absurd h (by omega)
      · refine zA_aload_0 dJ7_fill_53178_10 ?_
        refine zA_iload_2 dJ7_fill_53178_11 ?_
        refine zA_iload_1 dJ7_fill_53178_12 ?_
        refine zS_iast i hq dJ7_fill_53178_13 rfl (by omega) (hn) ?_
        refine zA_iinc_2 (v := nI (i + 1)) dJ7_fill_53178_14 (zn_inc _) rfl ?_
        have h9 := ih (i + 1) (by omega)
        rw [← zfill_s] at h9
        refine zA_goto 5 dJ7_fill_53178_17 (by decide) ?_
        have e9 : zs (va_up gi q (zfill (gi q) i v)) q i v = va_up gi q (upd (zfill (gi q) i v) i v) := by unfold zs; rw [va_up_self, bx_uu]
        rw [e9]
        exact h9
  have h0 := key n 0 (by omega)
  rw [zfill_0, show va_up gi q (gi q) = gi from funext fun j => by unfold va_up; split <;> simp_all] at h0
  exact h0
