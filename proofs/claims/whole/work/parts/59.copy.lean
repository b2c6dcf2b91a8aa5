theorem cpL : Cond.methodLink RX4 49 arraycopyName ∈ zm_T := zm_inT 755 (by decide +kernel) (by decide +kernel)
theorem cpS : Cond.static arraycopyName ∈ zm_T := zm_inT 756 (by decide +kernel) (by decide +kernel)
theorem cpN : Cond.native arraycopyName ∈ zm_T := zm_inT 757 (by decide +kernel) (by decide +kernel)
theorem cpI : Cond.initialized "java/lang/System" ∈ zm_T := zm_inT 135 (by decide +kernel) (by decide +kernel)
theorem zA_copy {x : zm_X} {g : zm_G} {y : zm_Y} {d mc ms : Nat} {Q : State → Prop} {ce sl pc : Nat} {L : List (Option Value)} {sh : List zm_K} {gi : zm_I} {gl : zm_J} {gr : zm_R} {idx q0 q1 n0 n1 n : Nat} (hl : Cond.methodLink y.2.1 idx arraycopyName ∈ zm_T) (hd : decode y.1 pc = .ok (.invokestatic idx, 3)) (hd1 : 1 ≤ d) (h0 : sh[q0]? = some (.inr (.int, n0))) (h1' : sh[q1]? = some (.inr (.int, n1))) (hn0 : n ≤ n0) (hn1 : n ≤ n1) (hn : n < 2 ^ 20)
    (k : zA x g y d mc ms Q ce sl (pc + 3) L [] (sh, va_up gi q1 (va_cpy (gi q0) (gi q1) 0 0 n), gl, gr)) : zA x g y d mc ms Q ce sl pc L [.int (nI n), .int (nI 0), .ref q1, .int (nI 0), .ref q0] (sh, gi, gl, gr) := by
  intro F hL ad H locs ls h1 h2 h3 h4 h5
  have z0 : zi (nI 0) = 0 := zi_nI (by decide)
  have zn : zi (nI n) = n := zi_nI (by omega)
  have nn : ¬ nI n < 0 := by
    intro q
    have h2 : (nI n).toInt < (0 : Int32).toInt := Int32.lt_iff_toInt_lt.mp q
    rw [nI_toInt (by omega)] at h2
    have h3 : (0 : Int32).toInt = 0 := by decide
    omega
  have hfr : 1 ≤ x.R.frames := Nat.le_trans hd1 F.2.2.2.2.2.1
  have hlo : 41 ≤ x.R.locals := Nat.le_trans (by omega) F.2.2.2.2.2.2.1
  refine va_copyi (a := ad q1) (a0 := ad q0) (own := y.2.1) (ty := .int) F.1 F.2.1 (F.2.2.1.trans (h5.1.trans hL).symm) F.2.2.2.1 (F.2.2.2.2.1 _ hl) (F.2.2.2.2.1 _ cpN) (F.2.2.2.2.1 _ cpS) (F.2.2.2.2.1 _ cpI) F.2.2.2.2.2.2.2.2.2.1.1 h3.2.2.1 h3.2.2.2.1 h4 q0 q1 0 0 (f := gi q0) (g := gi q1) (zm_ws_at (g := g) (ad := ad) (M := (sh, gi, gl, gr)) h0) (zm_ws_at (g := g) (ad := ad) (M := (sh, gi, gl, gr)) h1') rfl rfl rfl (sp := nI 0) (dp := nI 0) (n := nI n) (by decide) (by decide) nn (by show zi (nI 0) + zi (nI n) ≤ n0; omega) (by show zi (nI 0) + zi (nI n) ≤ n1; omega) (fun _ _ => rfl) hfr (Nat.le_trans (by exact (by decide : 0 + (nativeFrameWords "java/lang/System" "arraycopy" 5 + 11) ≤ 41)) hlo) hd (fun H1 locs1 hP hD hS => ?_)
  have ec : (va_cpy (gi q0) (gi q1) (nI 0).toNatClampNeg (nI 0).toNatClampNeg (nI n).toNatClampNeg) = va_cpy (gi q0) (gi q1) 0 0 n := by
    show va_cpy (gi q0) (gi q1) (zi (nI 0)) (zi (nI 0)) (zi (nI n)) = _
    rw [z0, zn]
  rw [ec] at hP hD
  have he : zm_ce g ad (sh, va_up gi q1 (va_cpy (gi q0) (gi q1) 0 0 n), gl, gr) q1 (.inr (.int, n1)) = .inl (g.2.2.1 .int, n1, .inl (va_cpy (gi q0) (gi q1) 0 0 n)) := by
    show (Sum.inl (g.2.2.1 .int, n1, .inl (va_up gi q1 (va_cpy (gi q0) (gi q1) 0 0 n) q1)) : va_E) = _
    rw [va_up_self]
  rw [← he] at hP hD
  exact k F hL ad H1 locs1 ls h1 h2 (zm_W_set (M' := (sh, va_up gi q1 (va_cpy (gi q0) (gi q1) 0 0 n), gl, gr)) h3 h1' rfl (fun a ha => ⟨zm_une ha, rfl, rfl⟩) hP hD hS F.2.2.2.2.2.2.2.2.2.2.1 F.2.2.2.2.2.2.2.2.2.2.2.1) hS h5
