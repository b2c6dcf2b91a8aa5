/-! ===== the law: its rows ===== -/
def mL_law : zm_Y := (cL_law, RL, 7, some .boolean)
def zSc (g : zm_G) (x : zm_X) (n : Nat) (xs : Nat → Int32) : Prop := va_X (g.2.2.2 12) n xs x.s x.s.heap ∧ g.2.2.2 12 < g.1.size
theorem zA_sld {x : zm_X} {g : zm_G} {y : zm_Y} {d mc ms : Nat} {Q : State → Prop} {ce sl pc : Nat} {L : List (Option Value)} {st : List Value} {M : zm_M} {n : Nat} {xs : Nat → Int32} {a : Int32} (hS : zSc g x n xs) (j : Nat) (hj : a = nI j) (hn' : j < n) (hb : n < 2 ^ 31) (hd : decode y.1 pc = .ok (.iaload, 1)) (k : zA x g y d mc ms Q ce sl (pc + 1) L (.int (xs j) :: st) M) : zA x g y d mc ms Q ce sl pc L (.int a :: .ref (zm_cB + 12) :: st) M := by
  intro F hn ad H locs ls h1 h2 h3 h4 h5
  have hk := k F hn ad H locs ls h1 h2 h3 h4 h5
  obtain ⟨hin, hcl⟩ := zm_in hj hn' hb
  have e : zm_c ad (.ref (zm_cB + 12)) = .ref (g.2.2.2 12) := congrArg Value.ref (h3.2.2.2.2.1 12)
  show W _ _ _ _ _ _ _ _ _ _ _ _ _ _ _ (F0 _ _ _ (.int a :: zm_c ad (.ref (zm_cB + 12)) :: st.map (zm_c ad)))
  rw [e]
  refine va_sld F.1 F.2.1 hS.1 (Nat.lt_of_lt_of_le hS.2 F.2.2.2.2.2.2.2.2.2.2.1) (Nat.not_le.mpr hS.2) h4 hin hd ?_
  rw [hcl]
  exact hk
theorem zA_slen {x : zm_X} {g : zm_G} {y : zm_Y} {d mc ms : Nat} {Q : State → Prop} {ce sl pc : Nat} {L : List (Option Value)} {st : List Value} {M : zm_M} {n : Nat} {xs : Nat → Int32} (hS : zSc g x n xs) (hd : decode y.1 pc = .ok (.arraylength, 1)) (k : zA x g y d mc ms Q ce sl (pc + 1) L (.int (nI n) :: st) M) : zA x g y d mc ms Q ce sl pc L (.ref (zm_cB + 12) :: st) M := by
  intro F hn ad H locs ls h1 h2 h3 h4 h5
  have hk := k F hn ad H locs ls h1 h2 h3 h4 h5
  have e : zm_c ad (.ref (zm_cB + 12)) = .ref (g.2.2.2 12) := congrArg Value.ref (h3.2.2.2.2.1 12)
  show W _ _ _ _ _ _ _ _ _ _ _ _ _ _ _ (F0 _ _ _ (zm_c ad (.ref (zm_cB + 12)) :: st.map (zm_c ad)))
  rw [e]
  exact va_slen F.1 F.2.1 hS.1 (Nat.lt_of_lt_of_le hS.2 F.2.2.2.2.2.2.2.2.2.2.1) (Nat.not_le.mpr hS.2) h4 hd hk
theorem ll_good : GoodIn zm_T (va_wsS RL 125 yL_look (Cond.codeWith yL_look cL_look 5 (some .int) zhh :: zm_T)) := by
  have hm : ∀ w ∈ va_wsS RL 125 yL_look (Cond.codeWith yL_look cL_look 5 (some .int) zhh :: zm_T), w ∈ zm_T := by
    intro w hw
    unfold va_wsS at hw
    rcases List.mem_append.mp hw with hw | hw
    · simp only [List.mem_cons, List.not_mem_nil, or_false] at hw
      rcases hw with rfl | rfl | rfl
      · exact zm_inT 1089 (by decide +kernel) (by decide +kernel)
      · exact zm_inT 1090 (by decide +kernel) (by decide +kernel)
      · exact zm_inT 116 (by decide +kernel) (by decide +kernel)
    · rcases List.mem_cons.mp hw with rfl | hw
      · exact zm_inT 1091 (by decide +kernel) (by decide +kernel)
      · exact hw
  exact fun w hw => ⟨hm w hw, good_of_word (zm_T_good (hm w hw))⟩
theorem zA_LL {x : zm_X} {g : zm_G} {d mc ms ce sl pc V r : Nat} {Q : State → Prop} {L : List (Option Value)} {rest st : List Value} {gi : zm_I} {gl : zm_J} {a b : Int32} (hl : x.l.stackTraces = false) (hX : zm_GX g x.s) (hLX : zLX x.s) (hV : gi 3 3 = nI V) (hV8 : V ≤ 8) (hd : decode cL_law pc = .ok (.invokestatic 125, 3)) (hdep : 10 ≤ d) (hce : ce + 1 ≤ mc) (hsl : sl + 6 ≤ ms) (hcat : (rest.map fun v => v.category).sum ≤ 8) (hs : st = [Value.ref 0, .int a, .int b, .ref 135].reverse ++ rest)
    (k : ∀ z gi' gl' gr', zPLL V a b gi gl r z gi' gl' gr' → zA x g mL_law d mc ms Q (ce + 1) (sl + 6) (pc + 3) L (.int z :: rest) (zSH, gi', gl', gr')) : zA x g mL_law d mc ms Q ce sl pc L st (zSH, gi, gl, zRT r) := by
  intro F hn ad H locs ls h1 h2 h3 h4 h5
  subst hs
  obtain ⟨f1, f2, f3, f4, f5, f6, f7, f8, f9, f10, f11, f12, f13, f14⟩ := id F
  have hR : 9 + 1 ≤ x.R.frames ∧ 8 + (5 + 11) + 41 * 9 ≤ x.R.locals := ⟨by omega, by omega⟩
  have hp : PreS x.s H (zm_Px g ad [.ref 0, .int a, .int b, .ref 135] (zSH, gi, gl, zRT r)) ([Value.ref 0, .int a, .int b, .ref 135].map (zm_c ad)) := ⟨zm_blindL, fun U hU hW => ⟨rfl, zm_Gl_warm hW f10, by rw [hU]; exact h3, zm_GX_mv hW.alike hX, zLX_warm hW hLX⟩⟩
  have hcap : ce + 1 ≤ x.R.cells ∧ sl + 6 ≤ x.R.slots := ⟨by rw [f8]; exact hce, by rw [f9]; exact hsl⟩
  have hroom : 2 * (F0 x.m pc ls (([Value.ref 0, .int a, .int b, .ref 135].reverse ++ rest).map (zm_c ad))).monitorRoom + ((rest.map (zm_c ad)).map fun v => v.category).sum ≤ 8 := lv_room (by rw [zm_c_cats]; exact hcat)
  exact zm_after (vx_runSW (n := 4) (nL := mL_law.2.2.1) (Ts := zm_T) (rest := rest.map (zm_c ad)) (own := RL) ⟨f1, f2, f3, f4, f5⟩ (ct_LL g gi gl r hV hV8 a b x.l hl ad) (vx_cwSW 4 f5 ll_good rfl rfl rfl (by decide +kernel) hR) hp rfl rfl (h5.1.trans hn) (zm_map_st ad [.ref 0, .int a, .int b, .ref 135] rest) hroom hd hcap) h4
      (fun v M' ad' H1 locs1 hpost had hn2 hw hS => by
        obtain ⟨z, gi', gl', gr', rfl, rfl, hP⟩ := hpost
        exact zm_next (M := (zSH, gi, gl, zRT r)) (M' := (zSH, gi', gl', gr')) (v := some (.int z)) F hn h1 h2 h5 (Or.inr rfl) had hn2 hw hS (k z gi' gl' gr' hP))
theorem zand31 (v : Int32) : ∃ k, k < 32 ∧ v &&& nI 31 = nI k := by
  refine ⟨(v &&& nI 31).toBitVec.toNat, ?_, ?_⟩
  · rw [Int32.toBitVec_and, BitVec.toNat_and]
    exact Nat.lt_of_le_of_lt Nat.and_le_right (by decide)
  · apply Int32.toBitVec_inj.mp
    show _ = BitVec.ofNat 32 _
    rw [BitVec.ofNat_toNat, BitVec.setWidth_eq]
theorem zlc8 : ∀ L, L < 8 → nI L - nI 8 < nI 0 := by decide
theorem zlc {i n : Nat} (hn : n ≤ 4096) (h : ¬ nI n - nI 8 < nI i) (hi : i < 2 ^ 20) : i + 8 ≤ n := by
  by_cases h8 : n < 8
  · exact absurd (Int32.lt_of_lt_of_le (zlc8 n h8) (nI_pos' (by omega))) h
  · rw [pk_sub (by omega)] at h
    by_cases h9 : i + 8 ≤ n
    · exact h9
    · exact absurd ((nI_ltI (by omega) (by omega)).mpr (by omega)) h
theorem zlt8 {b : Int32} : b < nI 8 ↔ b ≤ nI 7 := by
  rw [Int32.lt_iff_toInt_lt, Int32.le_iff_toInt_le, show (nI 8).toInt = 8 from rfl, show (nI 7).toInt = 7 from rfl]
  omega
