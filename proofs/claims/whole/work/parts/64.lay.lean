/-! the reference's ways -/
def zOp (gi : zm_I) (s i : Nat) : Prop := gi 93 i < 0 ∨ ¬ ((nI s >>> (gi 93 i &&& 31)) &&& nI 1 = nI 1)
def zRo (gi : zm_I) (Rd s : Nat) : Nat → Nat → Nat → Prop := fun x y l => ∃ i, i < Rd ∧ zOp gi s i ∧ ((x = zi (gi 90 i) ∧ y = zi (gi 91 i)) ∨ (x = zi (gi 91 i) ∧ y = zi (gi 90 i))) ∧ l = zi (gi 92 i)
def zRw (gi : zm_I) (V Rd : Nat) : Prop := ∀ i, i < Rd → ∃ A B l, A < V ∧ B < V ∧ l ≤ 600 ∧ gi 90 i = nI A ∧ gi 91 i = nI B ∧ gi 92 i = nI l
def rT8 (M : zm_I) (s : Nat) : Nat → Nat → Nat := fun f x => zi (M 105 (64 * s + 8 * f + x))
def rL0 (gi M : zm_I) (s : Nat) : Prop := (∀ a, a ≠ 105 → M a = gi a) ∧ ∀ s' a b, s' < s → a < 8 → b < 8 → M 105 (64 * s' + 8 * a + b) = gi (14 + s') (a * 8 + b)
def rLJ (gi M : zm_I) (V Rd s : Nat) : Prop :=
  rL0 gi M s ∧ (∀ f x, f < 8 → x < 8 → M 105 (64 * s + 8 * f + x) = nI (rT8 M s f x) ∧ rT8 M s f x ≤ 1000000) ∧ (∀ f, f < 8 → rT8 M s f f = 0) ∧
  (∀ f x, f < 8 → x < 8 → rT8 M s f x < 1000000 → zWay (zRo gi Rd s) f x (rT8 M s f x)) ∧ ∀ f x, V ≤ f → f < 8 → x < 8 → f ≠ x → rT8 M s f x = 1000000
def zSum (h : Nat → Nat) : Nat → Nat
  | 0 => 0
  | n + 1 => zSum h n + h n
theorem zSum_le {h h' : Nat → Nat} (hh : ∀ i, h' i ≤ h i) : ∀ n, zSum h' n ≤ zSum h n
  | 0 => Nat.le_refl _
  | n + 1 => Nat.add_le_add (zSum_le hh n) (hh n)
theorem zSum_lt {h h' : Nat → Nat} {k : Nat} (hh : ∀ i, h' i ≤ h i) (hk : h' k < h k) : ∀ n, k < n → zSum h' n < zSum h n
  | 0, q => absurd q (Nat.not_lt_zero _)
  | n + 1, q => by
    show zSum h' n + h' n < zSum h n + h n
    by_cases e : k = n
    · subst e
      have := zSum_le hh k
      omega
    · have := zSum_lt hh hk n (by omega)
      have := hh n
      omega
def rMu (M : zm_I) (s : Nat) : Nat := zSum (fun k => zi (M 105 (64 * s + k))) 64
def rIniS (s : Nat) (M : zm_I) (k : Nat) : zm_I := zs M 105 (64 * s + k) (if k / 8 = k % 8 then nI 0 else nI 1000000)
theorem rIni_nq (s : Nat) (M : zm_I) {a : Nat} (h : a ≠ 105) : ∀ n, zit (rIniS s) M n a = M a
  | 0 => rfl
  | n + 1 => (zs_nq h).trans (rIni_nq s M h n)
theorem rIni_at (s : Nat) (M : zm_I) (j : Nat) : ∀ n, zit (rIniS s) M n 105 j = if 64 * s ≤ j ∧ j < 64 * s + n then (if (j - 64 * s) / 8 = (j - 64 * s) % 8 then nI 0 else nI 1000000) else M 105 j
  | 0 => by rw [if_neg (by omega)]; rfl
  | n + 1 => by
    show zs (zit (rIniS s) M n) 105 (64 * s + n) (if n / 8 = n % 8 then nI 0 else nI 1000000) 105 j = _
    rw [zs_at]
    by_cases e : j = 64 * s + n
    · subst e
      rw [if_pos ⟨rfl, rfl⟩, if_pos (show 64 * s ≤ 64 * s + n ∧ 64 * s + n < 64 * s + (n + 1) by omega), Nat.add_sub_cancel_left]
    · rw [if_neg (fun q => e q.2), rIni_at s M j n]
      by_cases q : 64 * s ≤ j ∧ j < 64 * s + n
      · rw [if_pos q, if_pos (show 64 * s ≤ j ∧ j < 64 * s + (n + 1) by omega)]
      · rw [if_neg q, if_neg (show ¬ (64 * s ≤ j ∧ j < 64 * s + (n + 1)) by omega)]
theorem rIni_ok {gi M : zm_I} {V Rd s : Nat} (h : rL0 gi M s) : rLJ gi (zit (rIniS s) M 64) V Rd s := by
  have e : ∀ f x, f < 8 → x < 8 → zit (rIniS s) M 64 105 (64 * s + 8 * f + x) = if f = x then nI 0 else nI 1000000 := fun f x hf hx => by
    rw [rIni_at, if_pos (by omega), show 64 * s + 8 * f + x - 64 * s = 8 * f + x by omega, show (8 * f + x) / 8 = f by omega, show (8 * f + x) % 8 = x by omega]
  have z : ∀ f x, f < 8 → x < 8 → rT8 (zit (rIniS s) M 64) s f x = if f = x then 0 else 1000000 := fun f x hf hx => by
    unfold rT8
    rw [e f x hf hx]
    split
    · exact zi_nI (by decide)
    · exact zi_nI (by decide)
  refine ⟨⟨fun a ha => (rIni_nq s M ha 64).trans (h.1 a ha), fun s' a b hs ha hb => ?_⟩, fun f x hf hx => ?_, fun f hf => by rw [z f f hf hf, if_pos rfl], fun f x hf hx q => ?_, fun f x _ hf hx hn => by rw [z f x hf hx, if_neg hn]⟩
  · rw [rIni_at, if_neg (by omega)]
    exact h.2 s' a b hs ha hb
  · rw [z f x hf hx, e f x hf hx]
    split
    · exact ⟨rfl, by decide⟩
    · exact ⟨rfl, by decide⟩
  · rw [z f x hf hx] at q ⊢
    by_cases c : f = x
    · subst c
      rw [if_pos rfl]
      exact zWay_rf _ _
    · rw [if_neg c] at q
      omega
theorem rStep_ok {gi M : zm_I} {V Rd s f A B l : Nat} (hV : V ≤ 8) (h : rLJ gi M V Rd s) (hf : f < V) (hA : A < V) (hB : B < V) (hr : zRo gi Rd s A B l) (hlt : rT8 M s f A + l < rT8 M s f B) :
    rLJ gi (zs M 105 (64 * s + 8 * f + B) (nI (rT8 M s f A + l))) V Rd s ∧ rMu (zs M 105 (64 * s + 8 * f + B) (nI (rT8 M s f A + l))) s < rMu M s := by
  obtain ⟨⟨a1, a2⟩, a3, a4, a5, a6⟩ := h
  have hB2 := (a3 f B (by omega) (by omega)).2
  have hz : zi (nI (rT8 M s f A + l)) = rT8 M s f A + l := zi_nI (by omega)
  have hat : ∀ f' x', f' < 8 → x' < 8 → rT8 (zs M 105 (64 * s + 8 * f + B) (nI (rT8 M s f A + l))) s f' x' = if f' = f ∧ x' = B then rT8 M s f A + l else rT8 M s f' x' := fun f' x' hf' hx' => by
    show zi (zs M 105 (64 * s + 8 * f + B) (nI (rT8 M s f A + l)) 105 (64 * s + 8 * f' + x')) = _
    rw [zs_at]
    by_cases c : f' = f ∧ x' = B
    · rw [if_pos c, c.1, c.2, if_pos ⟨rfl, rfl⟩, hz]
    · rw [if_neg c, if_neg (by omega)]
      rfl
  refine ⟨⟨⟨fun a ha => (zs_nq ha).trans (a1 a ha), fun s' a b hs ha hb => ?_⟩, fun f' x' hf' hx' => ?_, fun f' hf' => ?_, fun f' x' hf' hx' => ?_, fun f' x' hv hf' hx' hn => ?_⟩, ?_⟩
  · rw [zs_nj (by omega)]
    exact a2 s' a b hs ha hb
  · rw [hat f' x' hf' hx', zs_at]
    by_cases c : f' = f ∧ x' = B
    · rw [if_pos c, c.1, c.2, if_pos ⟨rfl, rfl⟩]
      exact ⟨rfl, by omega⟩
    · rw [if_neg c, if_neg (by omega)]
      exact a3 f' x' hf' hx'
  · rw [hat f' f' hf' hf']
    split
    · next c =>
      have := a4 f' hf'
      obtain ⟨c1, c2⟩ := c
      subst c1
      subst c2
      omega
    · exact a4 f' hf'
  · rw [hat f' x' hf' hx']
    split
    · next c =>
      intro _
      rw [c.1, c.2]
      exact zWay_st (a5 f A (by omega) (by omega) (by omega)) hr
    · exact a5 f' x' hf' hx'
  · rw [hat f' x' hf' hx', if_neg (by omega)]
    exact a6 f' x' hv hf' hx' hn
  · refine zSum_lt (k := 8 * f + B) (fun i => ?_) ?_ 64 (by omega)
    · show zi (zs M 105 _ _ 105 (64 * s + i)) ≤ _
      rw [zs_at]
      split
      · next c =>
        rw [hz]
        have : rT8 M s f B = zi (M 105 (64 * s + i)) := by unfold rT8; rw [c.2]
        omega
      · exact Nat.le_refl _
    · show zi (zs M 105 _ _ 105 (64 * s + (8 * f + B))) < _
      rw [zs_at, if_pos ⟨rfl, by omega⟩, hz]
      have : rT8 M s f B = zi (M 105 (64 * s + (8 * f + B))) := by unfold rT8; rw [Nat.add_assoc]
      omega
/-- what is closed -/
def rCl (gi M : zm_I) (s j f : Nat) : Prop := rT8 M s f (zi (gi 91 j)) ≤ rT8 M s f (zi (gi 90 j)) + zi (gi 92 j) ∧ rT8 M s f (zi (gi 90 j)) ≤ rT8 M s f (zi (gi 91 j)) + zi (gi 92 j)
def rQ (gi M0 M : zm_I) (V Rd s : Nat) (mo : Int32) (i f : Nat) : Prop := rLJ gi M V Rd s ∧ ((mo = nI 0 ∧ M = M0 ∧ (∀ j, j < i → zOp gi s j → ∀ f', f' < V → rCl gi M s j f') ∧ ∀ f', f' < f → rCl gi M s i f') ∨ (mo = nI 1 ∧ rMu M s < rMu M0 s))
theorem rClosed {gi M : zm_I} {V Rd s : Nat} (hV : V ≤ 8) (hs : s < 4) (hw : zRw gi V Rd) (hT : ∀ s, s < 4 → zPt (gi (14 + s)) ∧ zTab (zRo gi Rd s) (zT8 (gi (14 + s)))) (h : rLJ gi M V Rd s) (hc : ∀ j, j < Rd → zOp gi s j → ∀ f', f' < V → rCl gi M s j f') : rL0 gi M (s + 1) := by
  obtain ⟨⟨a1, a2⟩, a3, a4, a5, a6⟩ := h
  have ht : zTab (zRo gi Rd s) (rT8 M s) := by
    refine ⟨fun a b ha hb => (a3 a b ha hb).2, a4, fun f x y l hf he => ?_, a5⟩
    obtain ⟨i, hi, ho, hxy, hl⟩ := he
    obtain ⟨A, B, l', hA, hB, _, e1, e2, _⟩ := hw i hi
    have z1 : zi (gi 90 i) = A := by rw [e1]; exact zi_nI (by omega)
    have z2 : zi (gi 91 i) = B := by rw [e2]; exact zi_nI (by omega)
    by_cases c : f < V
    · have := hc i hi ho f c
      unfold rCl at this
      rcases hxy with ⟨q1, q2⟩ | ⟨q1, q2⟩
      · rw [q1, q2, hl]; exact this.1
      · rw [q1, q2, hl]; exact this.2
    · have hx : x < V := by rcases hxy with ⟨q1, q2⟩ | ⟨q1, q2⟩ <;> omega
      have hy : y < V := by rcases hxy with ⟨q1, q2⟩ | ⟨q1, q2⟩ <;> omega
      have := a6 f x (by omega) hf (by omega) (by omega)
      have := (a3 f y hf (by omega)).2
      omega
  refine ⟨a1, fun s' a b hs' ha hb => ?_⟩
  by_cases c : s' = s
  · subst c
    have e := zTab_eq ht (hT s' hs).2 ha hb
    rw [(a3 a b ha hb).1, e, ((hT s' hs).1 (a * 8 + b) (by omega)).1]
    rfl
  · exact a2 s' a b (by omega) ha hb
theorem ct_rLay (g : zm_G) (gi : zm_I) (gl : zm_J) (r : Nat) {V : Nat} (hV : gi 87 3 = nI V) (hV8 : V ≤ 8) {Rd : Nat} (hR : gi 87 5 = nI Rd) (hRd : Rd ≤ 14) (hw : zRw gi V Rd) (hT : ∀ s, s < 4 → zPt (gi (14 + s)) ∧ zTab (zRo gi Rd s) (zT8 (gi (14 + s))))  : zC_v g yX11_lay mX11_lay 0 [.ref 87] zSH gi gl (zRT r) (fun gi' gl' gr' => rL0 gi gi' 4 ∧ gl' = gl ∧ gr' = zRT r) := by
  refine zC_v_of [some (.ref 87), none, none, none, none, none, none, none] (by decide) rfl rfl (Nat.le_of_ble_eq_true rfl) (fun x => ?_)
  refine zA_iconst (nI 0) dX11_lay_0 ic_0 ?_
  refine zA_istore_1 dX11_lay_1 rfl ?_
  have key : ∀ (m s : Nat) (M : zm_I) (l2 l3 l4 l5 l6 l7 : Option Value), s + m = 4 → rL0 gi M s → zB_v x g mX11_lay 0 zSH (fun gi' gl' gr' => rL0 gi gi' 4 ∧ gl' = gl ∧ gr' = zRT r) 2 [some (.ref 87), some (.int (nI s)), l2, l3, l4, l5, l6, l7] [] M gl (zRT r) := by
    intro m
    induction m with
    | zero =>
      intro s M l2 l3 l4 l5 l6 l7 hs hM
      refine zA_iload_1 dX11_lay_2 ?_
      refine zA_iconst (nI 4) dX11_lay_3 ic_4 ?_
      refine zA_icmp_geN 273 dX11_lay_4 (by decide) (by omega) (by omega) (fun h => ?_) (fun h => ?_)
      · have e4 : s = 4 := by omega
        subst e4
        exact zB_vret rfl dX11_lay_273 (⟨hM, rfl, rfl⟩)
      · exact absurd h (by omega)
    | succ m ih =>
      intro s M l2 l3 l4 l5 l6 l7 hs hM
      refine zA_iload_1 dX11_lay_2 ?_
      refine zA_iconst (nI 4) dX11_lay_3 ic_4 ?_
      refine zA_icmp_geN 273 dX11_lay_4 (by decide) (by omega) (by omega) (fun h => ?_) (fun h => ?_)
      · exact absurd h (by omega)
      · have wl : ∀ (n : Nat) (M : zm_I) (l4 l5 l6 l7 : Option Value), rLJ gi M V Rd s → rMu M s < n → zB_v x g mX11_lay 0 zSH (fun gi' gl' gr' => rL0 gi gi' 4 ∧ gl' = gl ∧ gr' = zRT r) 53 [some (.ref 87), some (.int (nI s)), some (.int (nI (64 * s))), some (.int (nI 1)), l4, l5, l6, l7] [] M gl (zRT r) := by
          intro n
          induction n with
          | zero =>
            intro M l4 l5 l6 l7 hJ hn
            exact absurd hn (Nat.not_lt_zero _)
          | succ n ihn =>
            intro M l4 l5 l6 l7 hJ hn
            refine zA_iload_3 dX11_lay_53 ?_
            refine zA_if_eq 267 dX11_lay_54 (by decide) (fun hh => absurd hh (by decide)) (fun _ => ?_)
            refine zA_iconst (nI 0) dX11_lay_57 ic_0 ?_
            refine zA_istore_3 dX11_lay_58 rfl ?_
            refine zA_iconst (nI 0) dX11_lay_59 ic_0 ?_
            refine zA_istore_4 dX11_lay_60 rfl ?_
            have rl : ∀ (p i : Nat) (X : zm_I) (mo : Int32) (l5 l6 l7 : Option Value), i + p = Rd → rQ gi M X V Rd s mo i 0 → zB_v x g mX11_lay 0 zSH (fun gi' gl' gr' => rL0 gi gi' 4 ∧ gl' = gl ∧ gr' = zRT r) 62 [some (.ref 87), some (.int (nI s)), some (.int (nI (64 * s))), some (.int mo), some (.int (nI i)), l5, l6, l7] [] X gl (zRT r) := by
              intro p
              induction p with
              | zero =>
                intro i X mo l5 l6 l7 hi hQ
                have kV : X 87 3 = nI V := by rw [hQ.1.1.1 87 (by decide)]; exact hV
                have kR : X 87 5 = nI Rd := by rw [hQ.1.1.1 87 (by decide)]; exact hR
                refine zA_iload_4 dX11_lay_62 ?_
                refine zA_aload_0 dX11_lay_64 ?_
                refine zA_getI (v := (nI Rd)) sh_87 fX11_180 dX11_lay_65 rfl kR ?_
                refine zA_icmp_geN 264 dX11_lay_68 (by decide) (by omega) (by omega) (fun h1 => ?_) (fun h1 => ?_)
                · refine zA_goto 53 dX11_lay_264 (by decide) ?_
                  have ei : i = Rd := by omega
                  obtain ⟨qJ, q⟩ := hQ
                  rcases q with ⟨q1, q2, q3, q4⟩ | ⟨q1, q2⟩
                  · subst q1
                    refine zA_iload_3 dX11_lay_53 ?_
                    refine zA_if_eq 267 dX11_lay_54 (by decide) (fun _ => ?_) (fun hh => absurd (by decide) hh)
                    refine zA_iinc_1 (v := nI (s + 1)) dX11_lay_267 (zn_inc _) rfl ?_
                    refine zA_goto 2 dX11_lay_270 (by decide) ?_
                    exact ih (s + 1) X _ _ _ _ _ _ (by omega) (rClosed hV8 (by omega) hw hT qJ (fun j hj => q3 j (by omega)))
                  · subst q1
                    exact ihn X _ _ _ _ qJ (by omega)
                · exact absurd h1 (by omega)
              | succ p ihp =>
                intro i X mo l5 l6 l7 hi hQ
                have hiR : i < Rd := by omega
                obtain ⟨A, B, l, hA, hB, hl, eA, eB, eL⟩ := hw i hiR
                have zA1 : zi (gi 90 i) = A := by rw [eA]; exact zi_nI (by omega)
                have zB1 : zi (gi 91 i) = B := by rw [eB]; exact zi_nI (by omega)
                have zL1 : zi (gi 92 i) = l := by rw [eL]; exact zi_nI (by omega)
                have inn : zOp gi s i → ∀ (t f : Nat) (X : zm_I) (mo : Int32) (l6 l7 : Option Value), f + t = V → rQ gi M X V Rd s mo i f → zB_v x g mX11_lay 0 zSH (fun gi' gl' gr' => rL0 gi gi' 4 ∧ gl' = gl ∧ gr' = zRT r) 102 [some (.ref 87), some (.int (nI s)), some (.int (nI (64 * s))), some (.int mo), some (.int (nI i)), some (.int (nI f)), l6, l7] [] X gl (zRT r) := by
                  intro hop t
                  induction t with
                  | zero =>
                    intro f X mo l6 l7 hf hQ
                    have kV : X 87 3 = nI V := by rw [hQ.1.1.1 87 (by decide)]; exact hV
                    have kR : X 87 5 = nI Rd := by rw [hQ.1.1.1 87 (by decide)]; exact hR
                    refine zA_iload_5 dX11_lay_102 ?_
                    refine zA_aload_0 dX11_lay_104 ?_
                    refine zA_getI (v := (nI V)) sh_87 fX11_169 dX11_lay_105 rfl kV ?_
                    refine zA_icmp_geN 258 dX11_lay_108 (by decide) (by omega) (by omega) (fun h2 => ?_) (fun h2 => ?_)
                    · refine zA_iinc_4 (v := nI (i + 1)) dX11_lay_258 (zn_inc _) rfl ?_
                      refine zA_goto 62 dX11_lay_261 (by decide) ?_
                      refine ihp (i + 1) X mo _ _ _ (by omega) ⟨hQ.1, ?_⟩
                      rcases hQ.2 with ⟨q1, q2, q3, q4⟩ | q
                      · refine Or.inl ⟨q1, q2, fun j hj ho f' hf' => ?_, fun f' hf' => absurd hf' (Nat.not_lt_zero _)⟩
                        by_cases c : j = i
                        · subst c
                          exact q4 f' (by omega)
                        · exact q3 j (by omega) ho f' hf'
                      · exact Or.inr q
                    · exact absurd h2 (by omega)
                  | succ t iht =>
                    intro f X mo l6 l7 hf hQ
                    have kV : X 87 3 = nI V := by rw [hQ.1.1.1 87 (by decide)]; exact hV
                    have kR : X 87 5 = nI Rd := by rw [hQ.1.1.1 87 (by decide)]; exact hR
                    have kA : X 90 i = nI A := by rw [hQ.1.1.1 90 (by decide)]; exact eA
                    have kB : X 91 i = nI B := by rw [hQ.1.1.1 91 (by decide)]; exact eB
                    have kL : X 92 i = nI l := by rw [hQ.1.1.1 92 (by decide)]; exact eL
                    have tA := hQ.1.2.1 f A (by omega) (by omega)
                    have tB := hQ.1.2.1 f B (by omega) (by omega)
                    have rAB : zRo gi Rd s A B l := ⟨i, hiR, hop, Or.inl ⟨zA1.symm, zB1.symm⟩, zL1.symm⟩
                    have rBA : zRo gi Rd s B A l := ⟨i, hiR, hop, Or.inr ⟨zB1.symm, zA1.symm⟩, zL1.symm⟩
                    have fin : ∀ (Y : zm_I), rLJ gi Y V Rd s → rMu Y s < rMu X s → rQ gi M Y V Rd s (nI 1) i (f + 1) := fun Y y1 y2 => ⟨y1, Or.inr ⟨rfl, by
                      rcases hQ.2 with ⟨_, q2, _⟩ | ⟨_, q⟩
                      · rw [← q2]; exact y2
                      · omega⟩⟩
                    refine zA_iload_5 dX11_lay_102 ?_
                    refine zA_aload_0 dX11_lay_104 ?_
                    refine zA_getI (v := (nI V)) sh_87 fX11_169 dX11_lay_105 rfl kV ?_
                    refine zA_icmp_geN 258 dX11_lay_108 (by decide) (by omega) (by omega) (fun h3 => ?_) (fun h3 => ?_)
                    · exact absurd h3 (by omega)
                    · refine zA_aload_0 dX11_lay_111 ?_
                      refine zA_getR sh_87 fX11_62 dX11_lay_112 rfl (rt_87_27 _) ?_
                      refine zA_iload_2 dX11_lay_115 ?_
                      refine zA_bipush (nI 8) dX11_lay_116 bc_8 ?_
                      refine zA_iload_5 dX11_lay_118 ?_
                      refine zA_imulN dX11_lay_120 ?_
                      refine zA_iaddN dX11_lay_121 ?_
                      refine zA_aload_0 dX11_lay_122 ?_
                      refine zA_getR sh_87 fX11_16 dX11_lay_123 rfl (rt_87_6 _) ?_
                      refine zA_iload_4 dX11_lay_126 ?_
                      refine zA_iald (v := (nI A)) i sh_90 dX11_lay_128 rfl (by omega) (by decide) kA ?_
                      refine zA_iaddN dX11_lay_129 ?_
                      refine zA_iald (v := (nI (rT8 X s f A))) (((64 * s) + (8 * f)) + A) sh_105 dX11_lay_130 rfl (by omega) (by decide) tA.1 ?_
                      refine zA_istore_6 dX11_lay_131 rfl ?_
                      refine zA_aload_0 dX11_lay_133 ?_
                      refine zA_getR sh_87 fX11_62 dX11_lay_134 rfl (rt_87_27 _) ?_
                      refine zA_iload_2 dX11_lay_137 ?_
                      refine zA_bipush (nI 8) dX11_lay_138 bc_8 ?_
                      refine zA_iload_5 dX11_lay_140 ?_
                      refine zA_imulN dX11_lay_142 ?_
                      refine zA_iaddN dX11_lay_143 ?_
                      refine zA_aload_0 dX11_lay_144 ?_
                      refine zA_getR sh_87 fX11_19 dX11_lay_145 rfl (rt_87_7 _) ?_
                      refine zA_iload_4 dX11_lay_148 ?_
                      refine zA_iald (v := (nI B)) i sh_91 dX11_lay_150 rfl (by omega) (by decide) kB ?_
                      refine zA_iaddN dX11_lay_151 ?_
                      refine zA_iald (v := (nI (rT8 X s f B))) (((64 * s) + (8 * f)) + B) sh_105 dX11_lay_152 rfl (by omega) (by decide) tB.1 ?_
                      refine zA_istore_7 dX11_lay_153 rfl ?_
                      refine zA_iload_6 dX11_lay_155 ?_
                      refine zA_aload_0 dX11_lay_157 ?_
                      refine zA_getR sh_87 fX11_22 dX11_lay_158 rfl (rt_87_8 _) ?_
                      refine zA_iload_4 dX11_lay_161 ?_
                      refine zA_iald (v := (nI l)) i sh_92 dX11_lay_163 rfl (by omega) (by decide) kL ?_
                      refine zA_iaddN dX11_lay_164 ?_
                      refine zA_iload_7 dX11_lay_165 ?_
                      refine zA_icmp_geN 205 dX11_lay_167 (by decide) (by omega) (by omega) (fun h4 => ?_) (fun h4 => ?_)
                      · refine zA_iload_7 dX11_lay_205 ?_
                        refine zA_aload_0 dX11_lay_207 ?_
                        refine zA_getR sh_87 fX11_22 dX11_lay_208 rfl (rt_87_8 _) ?_
                        refine zA_iload_4 dX11_lay_211 ?_
                        refine zA_iald (v := (nI l)) i sh_92 dX11_lay_213 rfl (by omega) (by decide) kL ?_
                        refine zA_iaddN dX11_lay_214 ?_
                        refine zA_iload_6 dX11_lay_215 ?_
                        refine zA_icmp_geN 252 dX11_lay_217 (by decide) (by omega) (by omega) (fun h5 => ?_) (fun h5 => ?_)
                        · refine zA_iinc_5 (v := nI (f + 1)) dX11_lay_252 (zn_inc _) rfl ?_
                          refine zA_goto 102 dX11_lay_255 (by decide) ?_
                          refine iht (f + 1) X mo _ _ (by omega) ⟨hQ.1, ?_⟩
                          rcases hQ.2 with ⟨q1, q2, q3, q4⟩ | q
                          · refine Or.inl ⟨q1, q2, q3, fun f' hf' => ?_⟩
                            by_cases c : f' = f
                            · subst c
                              unfold rCl
                              rw [zA1, zB1, zL1]
                              exact ⟨h4, h5⟩
                            · exact q4 f' (by omega)
                          · exact Or.inr q
                        · refine zA_aload_0 dX11_lay_220 ?_
                          refine zA_getR sh_87 fX11_62 dX11_lay_221 rfl (rt_87_27 _) ?_
                          refine zA_iload_2 dX11_lay_224 ?_
                          refine zA_bipush (nI 8) dX11_lay_225 bc_8 ?_
                          refine zA_iload_5 dX11_lay_227 ?_
                          refine zA_imulN dX11_lay_229 ?_
                          refine zA_iaddN dX11_lay_230 ?_
                          refine zA_aload_0 dX11_lay_231 ?_
                          refine zA_getR sh_87 fX11_16 dX11_lay_232 rfl (rt_87_6 _) ?_
                          refine zA_iload_4 dX11_lay_235 ?_
                          refine zA_iald (v := (nI A)) i sh_90 dX11_lay_237 rfl (by omega) (by decide) kA ?_
                          refine zA_iaddN dX11_lay_238 ?_
                          refine zA_iload_7 dX11_lay_239 ?_
                          refine zA_aload_0 dX11_lay_241 ?_
                          refine zA_getR sh_87 fX11_22 dX11_lay_242 rfl (rt_87_8 _) ?_
                          refine zA_iload_4 dX11_lay_245 ?_
                          refine zA_iald (v := (nI l)) i sh_92 dX11_lay_247 rfl (by omega) (by decide) kL ?_
                          refine zA_iaddN dX11_lay_248 ?_
                          refine zS_iast (((64 * s) + (8 * f)) + A) sh_105 dX11_lay_249 rfl (by omega) (by decide) ?_
                          refine zA_iconst (nI 1) dX11_lay_250 ic_1 ?_
                          refine zA_istore_3 dX11_lay_251 rfl ?_
                          refine zA_iinc_5 (v := nI (f + 1)) dX11_lay_252 (zn_inc _) rfl ?_
                          refine zA_goto 102 dX11_lay_255 (by decide) ?_
                          obtain ⟨y1, y2⟩ := rStep_ok hV8 hQ.1 (show f < V by omega) hB hA rBA h5
                          exact iht (f + 1) _ (nI 1) _ _ (by omega) (fin _ y1 y2)
                      · refine zA_aload_0 dX11_lay_170 ?_
                        refine zA_getR sh_87 fX11_62 dX11_lay_171 rfl (rt_87_27 _) ?_
                        refine zA_iload_2 dX11_lay_174 ?_
                        refine zA_bipush (nI 8) dX11_lay_175 bc_8 ?_
                        refine zA_iload_5 dX11_lay_177 ?_
                        refine zA_imulN dX11_lay_179 ?_
                        refine zA_iaddN dX11_lay_180 ?_
                        refine zA_aload_0 dX11_lay_181 ?_
                        refine zA_getR sh_87 fX11_19 dX11_lay_182 rfl (rt_87_7 _) ?_
                        refine zA_iload_4 dX11_lay_185 ?_
                        refine zA_iald (v := (nI B)) i sh_91 dX11_lay_187 rfl (by omega) (by decide) kB ?_
                        refine zA_iaddN dX11_lay_188 ?_
                        refine zA_iload_6 dX11_lay_189 ?_
                        refine zA_aload_0 dX11_lay_191 ?_
                        refine zA_getR sh_87 fX11_22 dX11_lay_192 rfl (rt_87_8 _) ?_
                        refine zA_iload_4 dX11_lay_195 ?_
                        refine zA_iald (v := (nI l)) i sh_92 dX11_lay_197 rfl (by omega) (by decide) kL ?_
                        refine zA_iaddN dX11_lay_198 ?_
                        refine zS_iast (((64 * s) + (8 * f)) + B) sh_105 dX11_lay_199 rfl (by omega) (by decide) ?_
                        refine zA_iconst (nI 1) dX11_lay_200 ic_1 ?_
                        refine zA_istore_3 dX11_lay_201 rfl ?_
                        refine zA_goto 252 dX11_lay_202 (by decide) ?_
                        refine zA_iinc_5 (v := nI (f + 1)) dX11_lay_252 (zn_inc _) rfl ?_
                        refine zA_goto 102 dX11_lay_255 (by decide) ?_
                        obtain ⟨y1, y2⟩ := rStep_ok hV8 hQ.1 (show f < V by omega) hA hB rAB h4
                        exact iht (f + 1) _ (nI 1) _ _ (by omega) (fin _ y1 y2)
                have kV : X 87 3 = nI V := by rw [hQ.1.1.1 87 (by decide)]; exact hV
                have kR : X 87 5 = nI Rd := by rw [hQ.1.1.1 87 (by decide)]; exact hR
                have k93 : X 93 = gi 93 := hQ.1.1.1 93 (by decide)
                have hQ0 : rQ gi M X V Rd s mo i 0 := hQ
                refine zA_iload_4 dX11_lay_62 ?_
                refine zA_aload_0 dX11_lay_64 ?_
                refine zA_getI (v := (nI Rd)) sh_87 fX11_180 dX11_lay_65 rfl kR ?_
                refine zA_icmp_geN 264 dX11_lay_68 (by decide) (by omega) (by omega) (fun h6 => ?_) (fun h6 => ?_)
                · exact absurd h6 (by omega)
                · refine zA_aload_0 dX11_lay_71 ?_
                  refine zA_getR sh_87 fX11_25 dX11_lay_72 rfl (rt_87_9 _) ?_
                  refine zA_iload_4 dX11_lay_75 ?_
                  refine zA_iald (v := (X 93 i)) i sh_93 dX11_lay_77 rfl (by omega) (by decide) rfl ?_
                  refine zA_if_lt 99 dX11_lay_78 (by decide) (fun h7 => ?_) (fun h7 => ?_)
                  · refine zA_iconst (nI 0) dX11_lay_99 ic_0 ?_
                    refine zA_istore_5 dX11_lay_100 rfl ?_
                    exact inn (Or.inl (by rw [k93] at h7; exact h7)) V 0 X mo _ _ (by omega) hQ
                  · refine zA_iload_1 dX11_lay_81 ?_
                    refine zA_aload_0 dX11_lay_82 ?_
                    refine zA_getR sh_87 fX11_25 dX11_lay_83 rfl (rt_87_9 _) ?_
                    refine zA_iload_4 dX11_lay_86 ?_
                    refine zA_iald (v := (X 93 i)) i sh_93 dX11_lay_88 rfl (by omega) (by decide) rfl ?_
                    refine zA_ishr dX11_lay_89 ?_
                    refine zA_iconst (nI 1) dX11_lay_90 ic_1 ?_
                    refine zA_iand dX11_lay_91 ?_
                    refine zA_iconst (nI 1) dX11_lay_92 ic_1 ?_
                    refine zA_icmp_ne 99 dX11_lay_93 (by decide) (fun h8 => ?_) (fun h8 => ?_)
                    · refine zA_iconst (nI 0) dX11_lay_99 ic_0 ?_
                      refine zA_istore_5 dX11_lay_100 rfl ?_
                      exact inn (Or.inr (by rw [k93] at h8; exact h8)) V 0 X mo _ _ (by omega) hQ
                    · refine zA_goto 258 dX11_lay_96 (by decide) ?_
                      refine zA_iinc_4 (v := nI (i + 1)) dX11_lay_258 (zn_inc _) rfl ?_
                      refine zA_goto 62 dX11_lay_261 (by decide) ?_
                      refine ihp (i + 1) X mo _ _ _ (by omega) ⟨hQ.1, ?_⟩
                      rcases hQ.2 with ⟨q1, q2, q3, q4⟩ | q
                      · refine Or.inl ⟨q1, q2, fun j hj ho f' hf' => ?_, fun f' hf' => absurd hf' (Nat.not_lt_zero _)⟩
                        by_cases c : j = i
                        · subst c
                          rcases ho with ho | ho
                          · exact absurd (by rw [k93]; exact ho) h7
                          · exact absurd (by rw [← k93]; exact h8) ho
                        · exact q3 j (by omega) ho f' hf'
                      · exact Or.inr q
            exact rl Rd 0 M (nI 0) _ _ _ (by omega) ⟨hJ, Or.inl ⟨rfl, rfl, fun j hj => absurd hj (Nat.not_lt_zero _), fun f hf => absurd hf (Nat.not_lt_zero _)⟩⟩
        refine zA_bipush (nI 64) dX11_lay_7 bc_64 ?_
        refine zA_iload_1 dX11_lay_9 ?_
        refine zA_imulN dX11_lay_10 ?_
        refine zA_istore_2 dX11_lay_11 rfl ?_
        refine zA_iconst (nI 0) dX11_lay_12 ic_0 ?_
        refine zA_istore_3 dX11_lay_13 rfl ?_
        have ini : ∀ (n k : Nat), k + n = 64 → zB_v x g mX11_lay 0 zSH (fun gi' gl' gr' => rL0 gi gi' 4 ∧ gl' = gl ∧ gr' = zRT r) 14 [some (.ref 87), some (.int (nI s)), some (.int (nI (64 * s))), some (.int (nI k)), l4, l5, l6, l7] [] ((zit (rIniS s) M k)) gl (zRT r) := by
          intro n
          induction n with
          | zero =>
            intro k hk
            refine zA_iload_3 dX11_lay_14 ?_
            refine zA_bipush (nI 64) dX11_lay_15 bc_64 ?_
            refine zA_icmp_geN 51 dX11_lay_17 (by decide) (by omega) (by omega) (fun h9 => ?_) (fun h9 => ?_)
            · have e9 : k = 64 := by omega
              subst e9
              refine zA_iconst (nI 1) dX11_lay_51 ic_1 ?_
              refine zA_istore_3 dX11_lay_52 rfl ?_
              exact wl _ _ _ _ _ _ (rIni_ok hM) (Nat.lt_succ_self _)
            · exact absurd h9 (by omega)
          | succ n ihk =>
            intro k hk
            refine zA_iload_3 dX11_lay_14 ?_
            refine zA_bipush (nI 64) dX11_lay_15 bc_64 ?_
            refine zA_icmp_geN 51 dX11_lay_17 (by decide) (by omega) (by omega) (fun h9 => ?_) (fun h9 => ?_)
            · exact absurd h9 (by omega)
            · have ih2 := ihk (k + 1) (by omega)
              refine zA_aload_0 dX11_lay_20 ?_
              refine zA_getR sh_87 fX11_62 dX11_lay_21 rfl (rt_87_27 _) ?_
              refine zA_iload_2 dX11_lay_24 ?_
              refine zA_iload_3 dX11_lay_25 ?_
              refine zA_iaddN dX11_lay_26 ?_
              refine zA_iload_3 dX11_lay_27 ?_
              refine zA_bipush (nI 8) dX11_lay_28 bc_8 ?_
              refine zA_idivN dX11_lay_30 (by omega) (by omega) (by omega) ?_
              refine zA_iload_3 dX11_lay_31 ?_
              refine zA_bipush (nI 8) dX11_lay_32 bc_8 ?_
              refine zA_iremN dX11_lay_34 (by omega) (by omega) (by omega) ?_
              refine zA_icmp_neN 42 dX11_lay_35 (by decide) (by omega) (by omega) (fun h10 => ?_) (fun h10 => ?_)
              · refine zA_ldc kX11_198 dX11_lay_42 ?_
                refine zA_topi (b := nI 1000000) (by decide) ?_
                refine zS_iast ((64 * s) + k) sh_105 dX11_lay_44 rfl (by omega) (by decide) ?_
                refine zA_iinc_3 (v := nI (k + 1)) dX11_lay_45 (zn_inc _) rfl ?_
                refine zA_goto 14 dX11_lay_48 (by decide) ?_
                have e9 : zit (rIniS s) M (k + 1) = zs (zit (rIniS s) M k) 105 (64 * s + k) (nI 1000000) := by
                  show zs _ _ _ (if _ then _ else _) = _
                  rw [if_neg h10]
                rw [e9] at ih2
                exact ih2
              · refine zA_iconst (nI 0) dX11_lay_38 ic_0 ?_
                refine zA_goto 44 dX11_lay_39 (by decide) ?_
                refine zS_iast ((64 * s) + k) sh_105 dX11_lay_44 rfl (by omega) (by decide) ?_
                refine zA_iinc_3 (v := nI (k + 1)) dX11_lay_45 (zn_inc _) rfl ?_
                refine zA_goto 14 dX11_lay_48 (by decide) ?_
                have e9 : zit (rIniS s) M (k + 1) = zs (zit (rIniS s) M k) 105 (64 * s + k) (nI 0) := by
                  show zs _ _ _ (if _ then _ else _) = _
                  rw [if_pos h10]
                rw [e9] at ih2
                exact ih2
        exact ini 64 0 (by omega)
  exact key 4 0 gi _ _ _ _ _ _ (by omega) ⟨fun _ _ => rfl, fun s' a b h => absurd h (Nat.not_lt_zero _)⟩
