/-! ===== the law: its beginning ===== -/
set_option maxRecDepth 100000 in
theorem lw_make {x : zm_X} {g : zm_G} {Q : State → Prop} (gi : zm_I) (gl : zm_J) (gr : zm_R) (hGX : zm_GX g x.s) (hz : ∀ k, 0 ≤ k → gi k = fun _ => 0) (hl : ∀ k, 0 ≤ k → gl k = fun _ => 0) (hO : zOkR 0 gr) (k : zA x g mL_law 13 601024 7293034 Q 200 10000 23 [some (.ref (zm_cB + 12)), some (.ref 0), some (.ref 87), some (.ref 135), some (.int (nI 0)), none, none] [] (zSH, (fI_X11_init_87 ((fI_X10_init_0 gi))), gl, (rI_X11_init_87 (rI_X10_init_0 gr)))) : zA x g mL_law 13 601024 7293034 Q 0 0 0 [some (.ref (zm_cB + 12)), none, none, none, none, none, none] [] (zSH.take 0, gi, gl, gr) := by
  refine zN_new (n := 0) sh_0 (by decide) rfl (by decide) uTX10 (zm_inT 141 (by decide +kernel) (by decide +kernel)) (zm_inT 142 (by decide +kernel) (by decide +kernel)) (zm_inT 117 (by decide +kernel) (by decide +kernel)) dL_law_0 (by decide) (by decide) (zOkR_mono hO (by decide)) (by decide) (fun k hk => hz k (Nat.le_trans (by decide) hk)) (fun k hk => hl k (Nat.le_trans (by decide) hk)) ?_
  refine zA_dup dL_law_3 rfl ?_
  refine zN_cI hGX (ci_X10_init_0 g gi gl gr (fun k hk => hz k (Nat.le_trans (by decide) hk)) (fun k hk => hl k (Nat.le_trans (by decide) hk)) (zOkR_mono hO (by decide))) (by decide) calX10_init lL_17 rfl (zm_inT 144 (by decide +kernel) (by decide +kernel)) dL_law_4 (by decide) (by decide) (by decide) (by simp [Value.category]) rfl (by decide) (fun gi' gl' gr' ⟨e1, e2, e3, hO, hz⟩ => ?_)
  rw [e1] at hz
  rw [e3] at hO
  rw [e1, e2, e3]
  clear e1 e2 e3
  refine zA_astore_1 dL_law_7 rfl ?_
  refine zN_new (n := 87) sh_87 (by decide) rfl (by decide) uTX11 (zm_inT 1180 (by decide +kernel) (by decide +kernel)) (zm_inT 1181 (by decide +kernel) (by decide +kernel)) (zm_inT 128 (by decide +kernel) (by decide +kernel)) dL_law_8 (by decide) (by decide) (zOkR_mono hO (by decide)) (by decide) (fun k hk => hz k (Nat.le_trans (by decide) hk)) (fun k hk => hl k (Nat.le_trans (by decide) hk)) ?_
  refine zA_dup dL_law_11 rfl ?_
  refine zN_cI hGX (ci_X11_init_87 g ((fI_X10_init_0 gi)) gl (rI_X10_init_0 gr) (fun k hk => hz k (Nat.le_trans (by decide) hk)) (fun k hk => hl k (Nat.le_trans (by decide) hk)) (zOkR_mono hO (by decide))) (by decide) calX11_init lL_20 rfl (zm_inT 1183 (by decide +kernel) (by decide +kernel)) dL_law_12 (by decide) (by decide) (by decide) (by simp [Value.category]) rfl (by decide) (fun gi' gl' gr' ⟨e1, e2, e3, hO, hz⟩ => ?_)
  rw [e1] at hz
  rw [e3] at hO
  rw [e1, e2, e3]
  clear e1 e2 e3
  refine zA_astore_2 dL_law_15 rfl ?_
  refine zA_iconst (nI 1) dL_law_16 ic_1 ?_
  refine zN_newa (n := 135) (i := 3) sh_135 (by decide) rfl rfl rfl ar_long dL_law_17 (by decide) (by decide) (by decide) (by decide) (zOkR_mono hO (by decide)) (by decide) (fun k hk => hz k (Nat.le_trans (by decide) hk)) (fun k hk => hl k (Nat.le_trans (by decide) hk)) (fun _ _ => rfl) ?_
  refine zA_astore_3 dL_law_19 rfl ?_
  refine zA_iconst (nI 0) dL_law_20 ic_0 ?_
  refine zA_istore_4 dL_law_21 rfl ?_
  rw [show zSH.take 136 = zSH from rfl]
  exact zA_widen (by decide) (by decide) k
theorem lw_body {x : zm_X} {g : zm_G} {Q : State → Prop} {n : Nat} {xs : Nat → Int32} (hl : x.l.stackTraces = false) (hX : zm_GX g x.s) (hLX : zLX x.s) (hS : zSc g x n xs) (hn : n ≤ 4096) (hend : ∀ i a5 a6 gi gl r, zA x g mL_law 13 601024 7293034 Q 601024 7293034 1320 [some (.ref (zm_cB + 12)), some (.ref 0), some (.ref 87), some (.ref 135), some (.int (nI i)), a5, a6] [] (zSH, gi, gl, zRT r)) : zA x g mL_law 13 601024 7293034 Q 0 0 0 [some (.ref (zm_cB + 12)), none, none, none, none, none, none] [] (zSH.take 0, (fun _ _ => 0), (fun _ _ => 0), fun _ _ => none) :=
  lw_make _ _ _ hX (fun _ _ => rfl) (fun _ _ => rfl) ⟨fun _ _ _ h => (nomatch h), fun _ _ => rfl⟩ (zA_rt (gi := zGi) (lw_loop hl hX hLX hS hn hend 4096 0 none none zGi _ 27 zI_first (by decide) (by omega)))
