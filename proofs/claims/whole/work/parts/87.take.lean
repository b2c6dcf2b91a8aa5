def rNum (r : Nat → Int32) : Nat → Nat → Int32 → Nat × Int32
  | 0, i, v => (i, v)
  | m + 1, i, v => if fDig (r i) then rNum r m (i + 1) (if nI 99999 < v then v else nI 10 * v + r i - nI 48) else (i, v)
/-- what a token of the reference is: from i on, of n bytes; its place, where it ends, its kind, which -/
def rTkP (r : Nat → Int32) (n i : Nat) (w0 : Int32) (pl nx : Nat) (kd wh : Int32) : Prop := pl = fSkp r (n - i) i ∧
  ((n ≤ pl ∧ nx = pl ∧ kd = nI 0 ∧ wh = w0) ∨ (pl < n ∧ fLet (r pl) ∧ nx = fWrd r (n - pl) pl ∧ zWa r pl nx wh ∧ kd = (if 0 ≤ wh then nI 1 else nI 4)) ∨
   (pl < n ∧ ¬ fLet (r pl) ∧ fDig (r pl) ∧ rNum r (n - pl) pl (nI 0) = (nx, wh) ∧ kd = nI 2) ∨
   (pl < n ∧ ¬ fLet (r pl) ∧ ¬ fDig (r pl) ∧ wh = rSg r n (pl + 1) (r pl) ∧ kd = (if 0 ≤ wh then nI 3 else nI 4) ∧ nx = (if wh = nI 2 ∨ wh = nI 4 ∨ wh = nI 5 then pl + 2 else pl + 1)))
theorem fSkp_st (t : Nat → Int32) : ∀ m i, fSkp t m i < i + m → ¬ fBlk (t (fSkp t m i))
  | 0, i, h => absurd h (by show ¬ i < i + 0; omega)
  | m + 1, i, h => by
    by_cases q : fBlk (t i)
    · have e : fSkp t (m + 1) i = fSkp t m (i + 1) := if_pos q
      rw [e] at h ⊢
      exact fSkp_st t m (i + 1) (by omega)
    · have e : fSkp t (m + 1) i = i := if_neg q
      rw [e]
      exact q
theorem ct_rTake (g : zm_G) (gi : zm_I) (gl : zm_J) (r : Nat) (hW : zWs gi) {n i : Nat} (hn : gi 87 31 = nI n) (hn5 : n ≤ 500) (hi : gi 87 32 = nI i) (hin : i ≤ n)  : zC_v g yX11_take mX11_take 2 [.ref 87] zSH gi gl (zRT r) (fun gi' gl' gr' => ∃ (pl nx : Nat) (kd wh : Int32), rTkP (gi 88) n i (gi 87 34) pl nx kd wh ∧ gi' = rTk gi (nI pl) (nI nx) kd wh ∧ gl' = gl ∧ gr' = zRT r) := by
  refine zC_v_of [some (.ref 87), none] (by decide) rfl rfl (Nat.le_of_ble_eq_true rfl) (fun x => ?_)
  have h0 := rTk_id gi
  rw [hi] at h0
  refine zA_gi h0.symm ?_
  generalize gi 87 35 = p0
  generalize hw0 : gi 87 34 = w0
  generalize gi 87 33 = k0
  clear h0
  have fin : ∀ (e : Nat) (l1 : Option Value), e = fSkp (gi 88) (n - i) i → e ≤ n → zB_v x g mX11_take 2 zSH (fun gi' gl' gr' => ∃ (pl nx : Nat) (kd wh : Int32), rTkP (gi 88) n i w0 pl nx kd wh ∧ gi' = rTk gi (nI pl) (nI nx) kd wh ∧ gl' = gl ∧ gr' = zRT r) 52 [some (.ref 87), l1] [] ((rTk gi p0 (nI e) k0 w0)) gl (zRT r) := by
    intro e l1 he hen
    refine zA_aload_0 dX11_take_52 ?_
    refine zA_aload_0 dX11_take_53 ?_
    refine zA_getI (v := (nI e)) sh_87 fX11_224 dX11_take_54 rfl rfl ?_
    refine zS_putI sh_87 fX11_218 dX11_take_57 rfl rfl ?_
    refine zA_gi (rTk_35 _ _ _ _ _ _) ?_
    refine zA_aload_0 dX11_take_60 ?_
    refine zA_getI (v := (nI e)) sh_87 fX11_224 dX11_take_61 rfl rfl ?_
    refine zA_aload_0 dX11_take_64 ?_
    refine zA_getI (v := (nI n)) sh_87 fX11_221 dX11_take_65 rfl hn ?_
    refine zA_icmp_neN 79 dX11_take_68 (by decide) (by omega) (by omega) (fun h1 => ?_) (fun h1 => ?_)
    · have hen2 : e < n := by omega
      refine zA_aload_0 dX11_take_79 ?_
      refine zA_aload_0 dX11_take_80 ?_
      refine zA_getI (v := (nI e)) sh_87 fX11_224 dX11_take_81 rfl rfl ?_
      refine zA_cVi (ct_risSmall g (rTk gi (nI e) (nI e) k0 w0) gl r (n := n) hn hn5 (k := e) (by omega)) calX11_isSmall stX11_isSmall lX11_234 dX11_take_84 (by decide) (by simp [Value.category]) rfl (Nat.le_refl _) (Nat.le_refl _) sh_87 rfl (fun zz gi' gl' gr' ⟨hz, e1, e2, e3⟩ => ?_)
      have hz2 : zz = zb (e < n ∧ fLet (gi 88 e)) := hz
      rw [hz2, e1, e2, e3]
      clear hz hz2 e1 e2 e3
      refine zA_if_eqB 149 dX11_take_87 (by decide) (fun h2 => ?_) (fun h2 => ?_)
      · have h2n : ¬ fLet (gi 88 e) := fun z => h2 ⟨hen2, z⟩
        refine zA_aload_0 dX11_take_149 ?_
        refine zA_aload_0 dX11_take_150 ?_
        refine zA_getI (v := (nI e)) sh_87 fX11_224 dX11_take_151 rfl rfl ?_
        refine zA_cVi (ct_risDigit g (rTk gi (nI e) (nI e) k0 w0) gl r (n := n) hn hn5 (k := e) (by omega)) calX11_isDigit stX11_isDigit lX11_244 dX11_take_154 (by decide) (by simp [Value.category]) rfl (Nat.le_refl _) (Nat.le_refl _) sh_87 rfl (fun zz gi' gl' gr' ⟨hz, e1, e2, e3⟩ => ?_)
        have hz2 : zz = zb (e < n ∧ fDig (gi 88 e)) := hz
        rw [hz2, e1, e2, e3]
        clear hz hz2 e1 e2 e3
        refine zA_if_eqB 234 dX11_take_157 (by decide) (fun h3 => ?_) (fun h3 => ?_)
        · have h3n : ¬ fDig (gi 88 e) := fun z => h3 ⟨hen2, z⟩
          refine zA_aload_0 dX11_take_234 ?_
          refine zA_getR sh_87 fX11_7 dX11_take_235 rfl (rt_87_0 _) ?_
          refine zA_aload_0 dX11_take_238 ?_
          refine zA_getI (v := (nI e)) sh_87 fX11_224 dX11_take_239 rfl rfl ?_
          refine zA_iald (v := (gi 88 e)) e sh_88 dX11_take_242 rfl (by omega) (by decide) rfl ?_
          refine zA_istore_1 dX11_take_243 rfl ?_
          refine zA_aload_0 dX11_take_244 ?_
          refine zA_dup dX11_take_245 rfl ?_
          refine zA_getI (v := (nI e)) sh_87 fX11_224 dX11_take_246 rfl rfl ?_
          refine zA_iconst (nI 1) dX11_take_249 ic_1 ?_
          refine zA_iaddN dX11_take_250 ?_
          refine zS_putI sh_87 fX11_224 dX11_take_251 rfl rfl ?_
          refine zA_gi (rTk_32 _ _ _ _ _ _) ?_
          refine zA_aload_0 dX11_take_254 ?_
          refine zA_aload_0 dX11_take_255 ?_
          refine zA_iload_1 dX11_take_256 ?_
          refine zA_cVi (ct_rSignOf g (rTk gi (nI e) (nI (e + 1)) k0 w0) gl r (n := n) hn hn5 (k := e + 1) rfl (by omega) (gi 88 e)) calX11_signOf stX11_signOf lX11_248 dX11_take_257 (by decide) (by simp [Value.category]) rfl (Nat.le_refl _) (Nat.le_refl _) sh_87 rfl (fun zz gi' gl' gr' ⟨hz, e1, e2, e3⟩ => ?_)
          have hz2 : zz = rSg (gi 88) n (e + 1) (gi 88 e) := hz
          rw [e1, e2, e3]
          clear hz e1 e2 e3
          refine zS_putI sh_87 fX11_241 dX11_take_260 rfl rfl ?_
          refine zA_gi (rTk_34 _ _ _ _ _ _) ?_
          have send : ∀ (kk : Int32), kk = (if 0 ≤ zz then nI 3 else nI 4) → zB_v x g mX11_take 2 zSH (fun gi' gl' gr' => ∃ (pl nx : Nat) (kd wh : Int32), rTkP (gi 88) n i w0 pl nx kd wh ∧ gi' = rTk gi (nI pl) (nI nx) kd wh ∧ gl' = gl ∧ gr' = zRT r) 279 [some (.ref 87), some (.int ((gi 88 e)))] [] ((rTk gi (nI e) (nI (e + 1)) kk zz)) gl (zRT r) := by
            intro kk hkk
            refine zA_aload_0 dX11_take_279 ?_
            refine zA_getI (v := zz) sh_87 fX11_241 dX11_take_280 rfl rfl ?_
            refine zA_iconst (nI 2) dX11_take_283 ic_2 ?_
            refine zA_icmp_eq 303 dX11_take_284 (by decide) (fun s1 => ?_) (fun s1 => ?_)
            · refine zA_aload_0 dX11_take_303 ?_
              refine zA_dup dX11_take_304 rfl ?_
              refine zA_getI (v := (nI (e + 1))) sh_87 fX11_224 dX11_take_305 rfl rfl ?_
              refine zA_iconst (nI 1) dX11_take_308 ic_1 ?_
              refine zA_iaddN dX11_take_309 ?_
              refine zS_putI sh_87 fX11_224 dX11_take_310 rfl rfl ?_
              refine zA_gi (rTk_32 _ _ _ _ _ _) ?_
              exact zB_vret rfl dX11_take_313 (⟨e, e + 2, kk, zz, ⟨he, Or.inr (Or.inr (Or.inr ⟨hen2, h2n, h3n, hz2, hkk, (if_pos (Or.inl s1)).symm⟩))⟩, rfl, rfl, rfl⟩)
            · refine zA_aload_0 dX11_take_287 ?_
              refine zA_getI (v := zz) sh_87 fX11_241 dX11_take_288 rfl rfl ?_
              refine zA_iconst (nI 4) dX11_take_291 ic_4 ?_
              refine zA_icmp_eq 303 dX11_take_292 (by decide) (fun s2 => ?_) (fun s2 => ?_)
              · refine zA_aload_0 dX11_take_303 ?_
                refine zA_dup dX11_take_304 rfl ?_
                refine zA_getI (v := (nI (e + 1))) sh_87 fX11_224 dX11_take_305 rfl rfl ?_
                refine zA_iconst (nI 1) dX11_take_308 ic_1 ?_
                refine zA_iaddN dX11_take_309 ?_
                refine zS_putI sh_87 fX11_224 dX11_take_310 rfl rfl ?_
                refine zA_gi (rTk_32 _ _ _ _ _ _) ?_
                exact zB_vret rfl dX11_take_313 (⟨e, e + 2, kk, zz, ⟨he, Or.inr (Or.inr (Or.inr ⟨hen2, h2n, h3n, hz2, hkk, (if_pos (Or.inr (Or.inl s2))).symm⟩))⟩, rfl, rfl, rfl⟩)
              · refine zA_aload_0 dX11_take_295 ?_
                refine zA_getI (v := zz) sh_87 fX11_241 dX11_take_296 rfl rfl ?_
                refine zA_iconst (nI 5) dX11_take_299 ic_5 ?_
                refine zA_icmp_ne 313 dX11_take_300 (by decide) (fun s3 => ?_) (fun s3 => ?_)
                · exact zB_vret rfl dX11_take_313 (⟨e, e + 1, kk, zz, ⟨he, Or.inr (Or.inr (Or.inr ⟨hen2, h2n, h3n, hz2, hkk, (if_neg (fun z => z.elim s1 (fun z => z.elim s2 s3))).symm⟩))⟩, rfl, rfl, rfl⟩)
                · refine zA_aload_0 dX11_take_303 ?_
                  refine zA_dup dX11_take_304 rfl ?_
                  refine zA_getI (v := (nI (e + 1))) sh_87 fX11_224 dX11_take_305 rfl rfl ?_
                  refine zA_iconst (nI 1) dX11_take_308 ic_1 ?_
                  refine zA_iaddN dX11_take_309 ?_
                  refine zS_putI sh_87 fX11_224 dX11_take_310 rfl rfl ?_
                  refine zA_gi (rTk_32 _ _ _ _ _ _) ?_
                  exact zB_vret rfl dX11_take_313 (⟨e, e + 2, kk, zz, ⟨he, Or.inr (Or.inr (Or.inr ⟨hen2, h2n, h3n, hz2, hkk, (if_pos (Or.inr (Or.inr s3))).symm⟩))⟩, rfl, rfl, rfl⟩)
          refine zA_aload_0 dX11_take_263 ?_
          refine zA_aload_0 dX11_take_264 ?_
          refine zA_getI (v := zz) sh_87 fX11_241 dX11_take_265 rfl rfl ?_
          refine zA_if_ge 275 dX11_take_268 (by decide) (fun q => ?_) (fun q => ?_)
          · refine zA_iconst (nI 3) dX11_take_275 ic_3 ?_
            refine zS_putI sh_87 fX11_231 dX11_take_276 rfl rfl ?_
            refine zA_gi (rTk_33 _ _ _ _ _ _) ?_
            exact send _ (if_pos q).symm
          · refine zA_iconst (nI 4) dX11_take_271 ic_4 ?_
            refine zA_goto 276 dX11_take_272 (by decide) ?_
            refine zS_putI sh_87 fX11_231 dX11_take_276 rfl rfl ?_
            refine zA_gi (rTk_33 _ _ _ _ _ _) ?_
            exact send _ (if_neg q).symm
        · have nend : ∀ (xx : Nat) (v : Int32) (l1 : Option Value), (xx, v) = rNum (gi 88) (n - e) e (nI 0) → zB_v x g mX11_take 2 zSH (fun gi' gl' gr' => ∃ (pl nx : Nat) (kd wh : Int32), rTkP (gi 88) n i w0 pl nx kd wh ∧ gi' = rTk gi (nI pl) (nI nx) kd wh ∧ gl' = gl ∧ gr' = zRT r) 313 [some (.ref 87), l1] [] ((rTk gi (nI e) (nI xx) (nI 2) v)) gl (zRT r) := by
            intro xx v l1 hx
            exact zB_vret rfl dX11_take_313 (⟨e, xx, nI 2, v, ⟨he, Or.inr (Or.inr (Or.inl ⟨hen2, h2n, h3.2, hx.symm, rfl⟩))⟩, rfl, rfl, rfl⟩)
          have nl : ∀ (m xx : Nat) (v : Int32) (l1 : Option Value), xx + m = n → rNum (gi 88) m xx v = rNum (gi 88) (n - e) e (nI 0) → zB_v x g mX11_take 2 zSH (fun gi' gl' gr' => ∃ (pl nx : Nat) (kd wh : Int32), rTkP (gi 88) n i w0 pl nx kd wh ∧ gi' = rTk gi (nI pl) (nI nx) kd wh ∧ gl' = gl ∧ gr' = zRT r) 170 [some (.ref 87), l1] [] ((rTk gi (nI e) (nI xx) (nI 2) v)) gl (zRT r) := by
            intro m
            induction m with
            | zero =>
              intro xx v l1 hx hw
              refine zA_aload_0 dX11_take_170 ?_
              refine zA_aload_0 dX11_take_171 ?_
              refine zA_getI (v := (nI xx)) sh_87 fX11_224 dX11_take_172 rfl rfl ?_
              refine zA_cVi (ct_risDigit g (rTk gi (nI e) (nI xx) (nI 2) v) gl r (n := n) hn hn5 (k := xx) (by omega)) calX11_isDigit stX11_isDigit lX11_244 dX11_take_175 (by decide) (by simp [Value.category]) rfl (Nat.le_refl _) (Nat.le_refl _) sh_87 rfl (fun zz gi' gl' gr' ⟨hz, e1, e2, e3⟩ => ?_)
              have hz2 : zz = zb (xx < n ∧ fDig (gi 88 xx)) := hz
              rw [hz2, e1, e2, e3]
              clear hz hz2 e1 e2 e3
              refine zA_if_eqB 313 dX11_take_178 (by decide) (fun q1 => ?_) (fun q1 => ?_)
              · exact nend xx v _ hw
              · exact absurd q1.1 (by omega)
            | succ m ih =>
              intro xx v l1 hx hw
              have hw2 : (if fDig (gi 88 xx) then rNum (gi 88) m (xx + 1) (if nI 99999 < v then v else nI 10 * v + gi 88 xx - nI 48) else (xx, v)) = rNum (gi 88) (n - e) e (nI 0) := hw
              refine zA_aload_0 dX11_take_170 ?_
              refine zA_aload_0 dX11_take_171 ?_
              refine zA_getI (v := (nI xx)) sh_87 fX11_224 dX11_take_172 rfl rfl ?_
              refine zA_cVi (ct_risDigit g (rTk gi (nI e) (nI xx) (nI 2) v) gl r (n := n) hn hn5 (k := xx) (by omega)) calX11_isDigit stX11_isDigit lX11_244 dX11_take_175 (by decide) (by simp [Value.category]) rfl (Nat.le_refl _) (Nat.le_refl _) sh_87 rfl (fun zz gi' gl' gr' ⟨hz, e1, e2, e3⟩ => ?_)
              have hz2 : zz = zb (xx < n ∧ fDig (gi 88 xx)) := hz
              rw [hz2, e1, e2, e3]
              clear hz hz2 e1 e2 e3
              refine zA_if_eqB 313 dX11_take_178 (by decide) (fun q1 => ?_) (fun q1 => ?_)
              · rw [if_neg (fun z => q1 ⟨by omega, z⟩)] at hw2
                exact nend xx v _ hw2
              · rw [if_pos q1.2] at hw2
                have hx88 : (rTk gi (nI e) (nI xx) (nI 2) v) 88 xx = gi 88 xx := rfl
                refine zA_aload_0 dX11_take_181 ?_
                refine zA_aload_0 dX11_take_182 ?_
                refine zA_getI (v := v) sh_87 fX11_241 dX11_take_183 rfl rfl ?_
                refine zA_ldc kX11_247 dX11_take_186 ?_
                refine zA_topi (b := nI 99999) (by decide) ?_
                refine zA_icmp_le 198 dX11_take_188 (by decide) (fun q2 => ?_) (fun q2 => ?_)
                · rw [if_neg (Int32.not_lt.mpr q2)] at hw2
                  refine zA_bipush (nI 10) dX11_take_198 bc_10 ?_
                  refine zA_aload_0 dX11_take_200 ?_
                  refine zA_getI (v := v) sh_87 fX11_241 dX11_take_201 rfl rfl ?_
                  refine zA_imul dX11_take_204 ?_
                  refine zA_aload_0 dX11_take_205 ?_
                  refine zA_getR sh_87 fX11_7 dX11_take_206 rfl (rt_87_0 _) ?_
                  refine zA_aload_0 dX11_take_209 ?_
                  refine zA_getI (v := (nI xx)) sh_87 fX11_224 dX11_take_210 rfl rfl ?_
                  refine zA_iald (v := (gi 88 xx)) xx sh_88 dX11_take_213 rfl (by omega) (by decide) rfl ?_
                  refine zA_iadd dX11_take_214 ?_
                  refine zA_bipush (nI 48) dX11_take_215 bc_48 ?_
                  refine zA_isub dX11_take_217 ?_
                  refine zS_putI sh_87 fX11_241 dX11_take_218 rfl rfl ?_
                  refine zA_gi (rTk_34 _ _ _ _ _ _) ?_
                  refine zA_aload_0 dX11_take_221 ?_
                  refine zA_dup dX11_take_222 rfl ?_
                  refine zA_getI (v := (nI xx)) sh_87 fX11_224 dX11_take_223 rfl rfl ?_
                  refine zA_iconst (nI 1) dX11_take_226 ic_1 ?_
                  refine zA_iaddN dX11_take_227 ?_
                  refine zS_putI sh_87 fX11_224 dX11_take_228 rfl rfl ?_
                  refine zA_goto 170 dX11_take_231 (by decide) ?_
                  refine zA_gi (rTk_32 _ _ _ _ _ _) ?_
                  exact ih (xx + 1) _ _ (by omega) hw2
                · rw [if_pos (Int32.not_le.mp q2)] at hw2
                  refine zA_aload_0 dX11_take_191 ?_
                  refine zA_getI (v := v) sh_87 fX11_241 dX11_take_192 rfl rfl ?_
                  refine zA_goto 218 dX11_take_195 (by decide) ?_
                  refine zS_putI sh_87 fX11_241 dX11_take_218 rfl rfl ?_
                  refine zA_gi (rTk_34 _ _ _ _ _ _) ?_
                  refine zA_aload_0 dX11_take_221 ?_
                  refine zA_dup dX11_take_222 rfl ?_
                  refine zA_getI (v := (nI xx)) sh_87 fX11_224 dX11_take_223 rfl rfl ?_
                  refine zA_iconst (nI 1) dX11_take_226 ic_1 ?_
                  refine zA_iaddN dX11_take_227 ?_
                  refine zS_putI sh_87 fX11_224 dX11_take_228 rfl rfl ?_
                  refine zA_goto 170 dX11_take_231 (by decide) ?_
                  refine zA_gi (rTk_32 _ _ _ _ _ _) ?_
                  exact ih (xx + 1) _ _ (by omega) hw2
          refine zA_aload_0 dX11_take_160 ?_
          refine zA_iconst (nI 2) dX11_take_161 ic_2 ?_
          refine zS_putI sh_87 fX11_231 dX11_take_162 rfl rfl ?_
          refine zA_gi (rTk_33 _ _ _ _ _ _) ?_
          refine zA_aload_0 dX11_take_165 ?_
          refine zA_iconst (nI 0) dX11_take_166 ic_0 ?_
          refine zS_putI sh_87 fX11_241 dX11_take_167 rfl rfl ?_
          refine zA_gi (rTk_34 _ _ _ _ _ _) ?_
          exact nl (n - e) e (nI 0) _ (by omega) rfl
      · have wl : ∀ (m xx : Nat) (l1 : Option Value), xx + m = n → fWrd (gi 88) m xx = fWrd (gi 88) (n - e) e → e ≤ xx → zB_v x g mX11_take 2 zSH (fun gi' gl' gr' => ∃ (pl nx : Nat) (kd wh : Int32), rTkP (gi 88) n i w0 pl nx kd wh ∧ gi' = rTk gi (nI pl) (nI nx) kd wh ∧ gl' = gl ∧ gr' = zRT r) 90 [some (.ref 87), l1] [] ((rTk gi (nI e) (nI xx) k0 w0)) gl (zRT r) := by
          have wend : ∀ (xx : Nat) (l1 : Option Value), xx = fWrd (gi 88) (n - e) e → e ≤ xx → xx ≤ n → zB_v x g mX11_take 2 zSH (fun gi' gl' gr' => ∃ (pl nx : Nat) (kd wh : Int32), rTkP (gi 88) n i w0 pl nx kd wh ∧ gi' = rTk gi (nI pl) (nI nx) kd wh ∧ gl' = gl ∧ gr' = zRT r) 114 [some (.ref 87), l1] [] ((rTk gi (nI e) (nI xx) k0 w0)) gl (zRT r) := by
            intro xx l1 hx hex hxn
            refine zA_aload_0 dX11_take_114 ?_
            refine zA_aload_0 dX11_take_115 ?_
            refine zA_aload_0 dX11_take_116 ?_
            refine zA_getI (v := (nI e)) sh_87 fX11_218 dX11_take_117 rfl rfl ?_
            refine zA_aload_0 dX11_take_120 ?_
            refine zA_getI (v := (nI xx)) sh_87 fX11_224 dX11_take_121 rfl rfl ?_
            refine zA_cVi (ct_rWordAt g (rTk gi (nI e) (nI xx) k0 w0) gl r hW (b := e) (e := xx) hex (by omega)) calX11_wordAt stX11_wordAt lX11_237 dX11_take_124 (by decide) (by simp [Value.category]) rfl (Nat.le_refl _) (Nat.le_refl _) sh_87 rfl (fun zz gi' gl' gr' ⟨hz, e1, e2, e3⟩ => ?_)
            have hz2 : zWa (gi 88) e xx zz := hz
            rw [e1, e2, e3]
            clear hz e1 e2 e3
            refine zS_putI sh_87 fX11_241 dX11_take_127 rfl rfl ?_
            refine zA_gi (rTk_34 _ _ _ _ _ _) ?_
            refine zA_aload_0 dX11_take_130 ?_
            refine zA_aload_0 dX11_take_131 ?_
            refine zA_getI (v := zz) sh_87 fX11_241 dX11_take_132 rfl rfl ?_
            refine zA_if_ge 142 dX11_take_135 (by decide) (fun q => ?_) (fun q => ?_)
            · refine zA_iconst (nI 1) dX11_take_142 ic_1 ?_
              refine zS_putI sh_87 fX11_231 dX11_take_143 rfl rfl ?_
              refine zA_goto 313 dX11_take_146 (by decide) ?_
              refine zA_gi (rTk_33 _ _ _ _ _ _) ?_
              exact zB_vret rfl dX11_take_313 (⟨e, xx, nI 1, zz, ⟨he, Or.inr (Or.inl ⟨hen2, h2.2, hx, hz2, (if_pos q).symm⟩)⟩, rfl, rfl, rfl⟩)
            · refine zA_iconst (nI 4) dX11_take_138 ic_4 ?_
              refine zA_goto 143 dX11_take_139 (by decide) ?_
              refine zS_putI sh_87 fX11_231 dX11_take_143 rfl rfl ?_
              refine zA_goto 313 dX11_take_146 (by decide) ?_
              refine zA_gi (rTk_33 _ _ _ _ _ _) ?_
              exact zB_vret rfl dX11_take_313 (⟨e, xx, nI 4, zz, ⟨he, Or.inr (Or.inl ⟨hen2, h2.2, hx, hz2, (if_neg q).symm⟩)⟩, rfl, rfl, rfl⟩)
          intro m
          induction m with
          | zero =>
            intro xx l1 hx hw hex
            refine zA_aload_0 dX11_take_90 ?_
            refine zA_aload_0 dX11_take_91 ?_
            refine zA_getI (v := (nI xx)) sh_87 fX11_224 dX11_take_92 rfl rfl ?_
            refine zA_cVi (ct_risSmall g (rTk gi (nI e) (nI xx) k0 w0) gl r (n := n) hn hn5 (k := xx) (by omega)) calX11_isSmall stX11_isSmall lX11_234 dX11_take_95 (by decide) (by simp [Value.category]) rfl (Nat.le_refl _) (Nat.le_refl _) sh_87 rfl (fun zz gi' gl' gr' ⟨hz, e1, e2, e3⟩ => ?_)
            have hz2 : zz = zb (xx < n ∧ fLet (gi 88 xx)) := hz
            rw [hz2, e1, e2, e3]
            clear hz hz2 e1 e2 e3
            refine zA_if_eqB 114 dX11_take_98 (by decide) (fun q1 => ?_) (fun q1 => ?_)
            · exact wend xx _ hw hex (by omega)
            · exact absurd q1.1 (by omega)
          | succ m ih =>
            intro xx l1 hx hw hex
            have hw2 : (if fLet (gi 88 xx) then fWrd (gi 88) m (xx + 1) else xx) = fWrd (gi 88) (n - e) e := hw
            refine zA_aload_0 dX11_take_90 ?_
            refine zA_aload_0 dX11_take_91 ?_
            refine zA_getI (v := (nI xx)) sh_87 fX11_224 dX11_take_92 rfl rfl ?_
            refine zA_cVi (ct_risSmall g (rTk gi (nI e) (nI xx) k0 w0) gl r (n := n) hn hn5 (k := xx) (by omega)) calX11_isSmall stX11_isSmall lX11_234 dX11_take_95 (by decide) (by simp [Value.category]) rfl (Nat.le_refl _) (Nat.le_refl _) sh_87 rfl (fun zz gi' gl' gr' ⟨hz, e1, e2, e3⟩ => ?_)
            have hz2 : zz = zb (xx < n ∧ fLet (gi 88 xx)) := hz
            rw [hz2, e1, e2, e3]
            clear hz hz2 e1 e2 e3
            refine zA_if_eqB 114 dX11_take_98 (by decide) (fun q1 => ?_) (fun q1 => ?_)
            · rw [if_neg (fun z => q1 ⟨by omega, z⟩)] at hw2
              exact wend xx _ hw2 hex (by omega)
            · rw [if_pos q1.2] at hw2
              refine zA_aload_0 dX11_take_101 ?_
              refine zA_dup dX11_take_102 rfl ?_
              refine zA_getI (v := (nI xx)) sh_87 fX11_224 dX11_take_103 rfl rfl ?_
              refine zA_iconst (nI 1) dX11_take_106 ic_1 ?_
              refine zA_iaddN dX11_take_107 ?_
              refine zS_putI sh_87 fX11_224 dX11_take_108 rfl rfl ?_
              refine zA_goto 90 dX11_take_111 (by decide) ?_
              refine zA_gi (rTk_32 _ _ _ _ _ _) ?_
              exact ih (xx + 1) _ (by omega) hw2 (by omega)
        exact wl (n - e) e _ (by omega) rfl (Nat.le_refl _)
    · refine zA_aload_0 dX11_take_71 ?_
      refine zA_iconst (nI 0) dX11_take_72 ic_0 ?_
      refine zS_putI sh_87 fX11_231 dX11_take_73 rfl rfl ?_
      refine zA_goto 313 dX11_take_76 (by decide) ?_
      refine zA_gi (rTk_33 _ _ _ _ _ _) ?_
      exact zB_vret rfl dX11_take_313 (⟨e, e, nI 0, w0, ⟨he, Or.inl ⟨by omega, rfl, rfl, rfl⟩⟩, rfl, rfl, rfl⟩)
  have skip : ∀ (m xx : Nat) (l1 : Option Value), xx + m = n → fSkp (gi 88) m xx = fSkp (gi 88) (n - i) i → zB_v x g mX11_take 2 zSH (fun gi' gl' gr' => ∃ (pl nx : Nat) (kd wh : Int32), rTkP (gi 88) n i w0 pl nx kd wh ∧ gi' = rTk gi (nI pl) (nI nx) kd wh ∧ gl' = gl ∧ gr' = zRT r) 0 [some (.ref 87), l1] [] ((rTk gi p0 (nI xx) k0 w0)) gl (zRT r) := by
    intro m
    induction m with
    | zero =>
      intro xx l1 hx hw
      refine zA_aload_0 dX11_take_0 ?_
      refine zA_getI (v := (nI xx)) sh_87 fX11_224 dX11_take_1 rfl rfl ?_
      refine zA_aload_0 dX11_take_4 ?_
      refine zA_getI (v := (nI n)) sh_87 fX11_221 dX11_take_5 rfl hn ?_
      refine zA_icmp_geN 52 dX11_take_8 (by decide) (by omega) (by omega) (fun q1 => ?_) (fun q1 => ?_)
      · exact fin xx _ hw (by omega)
      · exact absurd q1 (by omega)
    | succ m ih =>
      intro xx l1 hx hw
      have hw2 : (if fBlk (gi 88 xx) then fSkp (gi 88) m (xx + 1) else xx) = fSkp (gi 88) (n - i) i := hw
      refine zA_aload_0 dX11_take_0 ?_
      refine zA_getI (v := (nI xx)) sh_87 fX11_224 dX11_take_1 rfl rfl ?_
      refine zA_aload_0 dX11_take_4 ?_
      refine zA_getI (v := (nI n)) sh_87 fX11_221 dX11_take_5 rfl hn ?_
      refine zA_icmp_geN 52 dX11_take_8 (by decide) (by omega) (by omega) (fun q1 => ?_) (fun q1 => ?_)
      · exact absurd q1 (by omega)
      · refine zA_aload_0 dX11_take_11 ?_
        refine zA_getR sh_87 fX11_7 dX11_take_12 rfl (rt_87_0 _) ?_
        refine zA_aload_0 dX11_take_15 ?_
        refine zA_getI (v := (nI xx)) sh_87 fX11_224 dX11_take_16 rfl rfl ?_
        refine zA_iald (v := (gi 88 xx)) xx sh_88 dX11_take_19 rfl (by omega) (by decide) rfl ?_
        refine zA_bipush (nI 10) dX11_take_20 bc_10 ?_
        refine zA_icmp_eq 39 dX11_take_22 (by decide) (fun q2 => ?_) (fun q2 => ?_)
        · rw [if_pos (Or.inr q2)] at hw2
          refine zA_aload_0 dX11_take_39 ?_
          refine zA_dup dX11_take_40 rfl ?_
          refine zA_getI (v := (nI xx)) sh_87 fX11_224 dX11_take_41 rfl rfl ?_
          refine zA_iconst (nI 1) dX11_take_44 ic_1 ?_
          refine zA_iaddN dX11_take_45 ?_
          refine zS_putI sh_87 fX11_224 dX11_take_46 rfl rfl ?_
          refine zA_goto 0 dX11_take_49 (by decide) ?_
          refine zA_gi (rTk_32 _ _ _ _ _ _) ?_
          exact ih (xx + 1) _ (by omega) hw2
        · refine zA_aload_0 dX11_take_25 ?_
          refine zA_getR sh_87 fX11_7 dX11_take_26 rfl (rt_87_0 _) ?_
          refine zA_aload_0 dX11_take_29 ?_
          refine zA_getI (v := (nI xx)) sh_87 fX11_224 dX11_take_30 rfl rfl ?_
          refine zA_iald (v := (gi 88 xx)) xx sh_88 dX11_take_33 rfl (by omega) (by decide) rfl ?_
          refine zA_bipush (nI 32) dX11_take_34 bc_32 ?_
          refine zA_icmp_ne 52 dX11_take_36 (by decide) (fun q3 => ?_) (fun q3 => ?_)
          · rw [if_neg (fun z => z.elim q3 q2)] at hw2
            exact fin xx _ hw2 (by omega)
          · rw [if_pos (Or.inl q3)] at hw2
            refine zA_aload_0 dX11_take_39 ?_
            refine zA_dup dX11_take_40 rfl ?_
            refine zA_getI (v := (nI xx)) sh_87 fX11_224 dX11_take_41 rfl rfl ?_
            refine zA_iconst (nI 1) dX11_take_44 ic_1 ?_
            refine zA_iaddN dX11_take_45 ?_
            refine zS_putI sh_87 fX11_224 dX11_take_46 rfl rfl ?_
            refine zA_goto 0 dX11_take_49 (by decide) ?_
            refine zA_gi (rTk_32 _ _ _ _ _ _) ?_
            exact ih (xx + 1) _ (by omega) hw2
  exact skip (n - i) i _ (by omega) rfl
