theorem zTl_num {kd wh kc vc : Int32} (h : zTl kd wh kc vc) : (kd = nI 2 ∧ kc = nI 3 ∧ zNv vc wh) ∨ (¬ kd = nI 2 ∧ ¬ kc = nI 3) := by
  rcases h with ⟨h1, h2⟩ | ⟨h1, h2⟩ | ⟨h1, h2, h3⟩ | ⟨h1, h2, h3⟩ | ⟨h1, h2⟩
  · subst h1 h2; exact Or.inr (by decide)
  · subst h1 h2; exact Or.inr (by decide)
  · exact Or.inl ⟨h1, h2, h3⟩
  · refine Or.inr ⟨by rw [h1]; decide, ?_⟩
    rcases h3 with ⟨w, w1, w2, _, e⟩ | ⟨_, e⟩ | ⟨_, e⟩ | ⟨_, e⟩ | ⟨_, e⟩
    · rw [e]; exact nI_q (by omega) (by omega) (by omega)
    · rw [e]; decide
    · rw [e]; decide
    · rw [e]; decide
    · rw [e]; decide
  · refine Or.inr ⟨?_, by rw [h2]; decide⟩
    rcases h1 with h1 | h1 <;> rw [h1] <;> decide
theorem zTl_end {kd wh kc vc : Int32} (h : zTl kd wh kc vc) : kc = nI 5 ↔ (kd = nI 3 ∧ wh = nI 59) := by
  rcases h with ⟨h1, h2⟩ | ⟨h1, h2⟩ | ⟨h1, h2, h3⟩ | ⟨h1, h2, h3⟩ | ⟨h1, h2⟩
  · subst h1 h2; exact ⟨fun q => absurd q (by decide), fun q => absurd q.1 (by decide)⟩
  · subst h1 h2; exact ⟨fun q => absurd q (by decide), fun q => absurd q.1 (by decide)⟩
  · subst h1 h2; exact ⟨fun q => absurd q (by decide), fun q => absurd q.1 (by decide)⟩
  · subst h1
    rcases h3 with ⟨w, w1, w2, w3, e⟩ | ⟨w3, e⟩ | ⟨w3, e⟩ | ⟨w3, e⟩ | ⟨w3, e⟩
    · rw [e, w3]; exact ⟨fun q => absurd q (nI_q (by omega) (by omega) (by omega)), fun q => absurd q.2 (nI_q (by omega) (by omega) (by omega))⟩
    · rw [e, w3]; decide
    · rw [e, w3]; decide
    · rw [e, w3]; decide
    · exact absurd w3 h2
  · rw [h2]
    refine ⟨fun q => absurd q (by decide), fun q => ?_⟩
    rcases h1 with h1 | h1 <;> rw [h1] at q <;> exact absurd q.1 (by decide)
theorem zNv_can {v w : Int32} (h : zNv v w) (hi : Nat) (h9 : hi ≤ 99999) : (v ≤ nI hi ↔ w ≤ nI hi) ∧ (w ≤ nI hi → v = w) := by
  rcases h with ⟨a, h1, h2, h3⟩ | ⟨a, b, a1, a2, b1, b2, h2, h3⟩
  · rw [h2, h3]; exact ⟨Iff.rfl, fun _ => rfl⟩
  · have e1 : ¬ nI a ≤ nI hi := fun q => by
      have := (nI_leI (by omega) (by omega)).mp q
      omega
    have e2 : ¬ nI b ≤ nI hi := fun q => by
      have := (nI_leI (by omega) (by omega)).mp q
      omega
    rw [h2, h3]
    exact ⟨⟨fun q => absurd q e1, fun q => absurd q e2⟩, fun q => absurd q e2⟩
/-- a line's word is read -/
theorem zLn1 {M gi : zm_I} {n i k s b w : Nat} {dn : Nat → Nat} {pl nx pl2 nx2 : Nat} {kd wh w0 kd2 wh2 : Int32} (hS : zLS s b k dn M gi) (hD : ∀ l, l < 5 → zLD M gi dn s l (b.testBit (2 + l))) (hT : zTS n i M gi pl nx kd wh) (hw : w < 7) (hb : ¬ b.testBit w = true) (ht : rTkP (zs gi 108 w (nI 1) 88) n nx w0 pl2 nx2 kd2 wh2) :
    zLS s (b ||| 1 <<< w) (k + 1) dn (fRlM (fAv M) w) (rTk (zs gi 108 w (nI 1)) (nI pl2) (nI nx2) kd2 wh2) ∧ (∀ l, l < 5 → 2 + l ≠ w → zLD (fRlM (fAv M) w) (rTk (zs gi 108 w (nI 1)) (nI pl2) (nI nx2) kd2 wh2) dn s l ((b ||| 1 <<< w).testBit (2 + l))) ∧ zTS n nx (fRlM (fAv M) w) (rTk (zs gi 108 w (nI 1)) (nI pl2) (nI nx2) kd2 wh2) pl2 nx2 kd2 wh2 ∧ zFrT gi (rTk (zs gi 108 w (nI 1)) (nI pl2) (nI nx2) kd2 wh2) := by
  obtain ⟨a2, a3, a4, a5, a6, a7, a8⟩ := zTS_av hT
  obtain ⟨⟨s1, s2, s3, s4, s5⟩, s6, ⟨s7, s8, s9, s10⟩, ⟨s11, s12, s13⟩, s14⟩ := hS
  have xq : ∀ a, a ≠ 87 → a ≠ 108 → rTk (zs gi 108 w (nI 1)) (nI pl2) (nI nx2) kd2 wh2 a = gi a := fun a h1 h2 => by rw [rTk_nq _ _ _ _ _ h1, zs_nq h2]
  have xj : ∀ j, 35 < j → rTk (zs gi 108 w (nI 1)) (nI pl2) (nI nx2) kd2 wh2 87 j = gi 87 j := fun j h1 => by rw [rTk_j _ _ _ _ _ (by omega) (by omega) (by omega) (by omega), zs_nq (by decide)]
  have mq : ∀ a, a ≠ 42 → a ≠ 43 → a ≠ 50 → fRlM (fAv M) w a = M a := fun a h1 h2 h3 => by unfold fRlM; rw [zs_nq h2, zs_nq h1, fAv_q M h3]
  have m42 : ∀ j, j ≠ 6 → fRlM (fAv M) w 42 j = M 42 j := fun j h => by unfold fRlM; rw [zs_nq (by decide), zs_nj h, fAv_q M (by decide)]
  have m43 : ∀ j, j ≠ 7 → fRlM (fAv M) w 43 j = M 43 j := fun j h => by unfold fRlM; rw [zs_nj h, zs_nq (by decide), fAv_q M (by decide)]
  have m50 : fRlM (fAv M) w 50 = fAv M 50 := by unfold fRlM; rw [zs_nq (by decide), zs_nq (by decide)]
  have hbt := zbt b s7 w hw
  refine ⟨⟨⟨(m42 5 (by decide)).trans s1, (xj 48 (by decide)).trans s2, (m43 8 (by decide)).trans s3, (xj 47 (by decide)).trans s4, s5⟩, fun j hj => by rw [xq 114 (by decide) (by decide)]; exact s6 j hj, ⟨hbt.2.2, ?_, fun v hv => ?_, fun v => ?_⟩, ⟨?_, ?_, ?_⟩, zKf_at (zKf_of (fun j hj => by rw [rTk_j _ _ _ _ _ (by omega) (by omega) (by omega) (by omega), zs_nq (by decide)]) (fun j hj => m42 j (by omega))) s14⟩, fun l hl hne => ?_, ?_, ?_⟩
  · show zs (zs (fAv M) 42 6 _) 43 7 _ 42 6 = _
    rw [zs_nq (by decide), zs_eq, fAv_q M (by decide), s8]
    exact hbt.2.1
  · rw [rTk_nq _ _ _ _ _ (by decide), zbt2]
    by_cases e : v = w
    · rw [e, zs_eq, if_pos rfl]; rfl
    · rw [zs_nj e, if_neg e]; exact s9 v hv
  · rw [rTk_nq _ _ _ _ _ (by decide)]
    by_cases e : v = w
    · rw [e, zs_eq]; exact Or.inr rfl
    · rw [zs_nj e]; exact s10 v
  · rw [xq 107 (by decide) (by decide), m43 5 (by decide)]; exact s11
  · rw [xq 107 (by decide) (by decide), m43 6 (by decide)]; exact s12
  · show zs (zs (fAv M) 42 6 _) 43 7 _ 43 7 = _
    rw [zs_eq, fAv_q M (by decide), s13, nI_add]
  · rw [zbt2, if_neg hne]
    exact zLD_old (M := M) (X := gi) (dn := dn) ⟨fun j _ => by rw [xq 110 (by decide) (by decide), xq 111 (by decide) (by decide), xq 112 (by decide) (by decide), xq 113 (by decide) (by decide)]; exact ⟨rfl, rfl, rfl, rfl, rfl⟩, fun c _ => by rw [mq 44 (by decide) (by decide) (by decide), mq 45 (by decide) (by decide) (by decide)]; exact ⟨rfl, rfl⟩⟩ (Nat.le_refl _) (by rw [mq 46 (by decide) (by decide) (by decide)]) (by rw [mq 47 (by decide) (by decide) (by decide)]) (by rw [xq 115 (by decide) (by decide)]) (by rw [xq 116 (by decide) (by decide)]) (hD l hl)
  · exact zTS_tk hT.1.2.1 (by rw [zs_nq (by decide)]; exact hT.1.2.2.2.2.1) (by rw [mq 1 (by decide) (by decide) (by decide), zs_nq (by decide)]; exact hT.1.2.2.2.2.2.1) (fun j hj => by rw [zs_nq (by decide)]; exact hT.1.2.2.2.2.2.2 j hj) (by rw [m50]; exact a6) (by rw [m50]; exact a3) a5 ht
  · exact zFrT_tr (zFrT_108 gi w) (zFrT_X (zFrX_tk _ _ _ _ _))
/-- a line's expression was read, and its end is there -/
theorem zLnX {B X2 X3 gi : zm_I} {n i i1 nx nx1 k s b l : Nat} {dn : Nat → Nat} {pl nx2 : Nat} {kd wh : Int32} (hS : zLS s b (k + 1) dn B X2) (hb : b.testBit (2 + l) = true) (hD : ∀ j, j < 5 → j ≠ l → zLD B X2 dn s j (b.testBit (2 + j))) (hT : zTS n nx B X2 pl nx2 kd wh) (hF : zFrT gi X2) (hi : i < nx) {wr' rt : Nat} {dn' : Nat → Nat} (hFr : zFrL l X2 X3) (c1 : nx ≤ i1) (c2 : i1 < nx1) (c3 : nx1 ≤ n) (d1 : (fEx B l).2 50 1 = nI n) (d2 : (fEx B l).2 50 3 = nI nx1) (d4 : (fEx B l).2 1 = B 1) (hP : zPS (fEx B l).2 X3 l s wr' wr' wr' [] [rt] dn') (hO : zOld s dn B X2 dn' (fEx B l).2 X3) (f1 : X3 115 (5 + l) = nI s) (f2 : X3 116 (5 + l) = nI (wr' - s)) (f3 : (fEx B l).2 46 l = nI s) (f4 : (fEx B l).2 47 l = nI wr') {pl3 nx3 : Nat} {w0 kd3 wh3 : Int32} (ht : rTkP (X3 88) n nx1 w0 pl3 nx3 kd3 wh3) (hR : (fEx B l).1 = true) {R : Bool × zm_I} (hq : R = fEx B l) :
    zLnE n i k gi R (nI 1) (rTk X3 (nI pl3) (nI nx3) kd3 wh3) := by
  subst hq
  obtain ⟨⟨s1, s2, s3, s4, s5⟩, s6, ⟨s7, s8, s9, s10⟩, ⟨s11, s12, s13⟩, s14⟩ := hS
  have hs' : s ≤ wr' := hP.2.1.2.2
  have xq : ∀ a, a ≠ 87 → rTk X3 (nI pl3) (nI nx3) kd3 wh3 a = X3 a := fun a h1 => rTk_nq _ _ _ _ _ h1
  have xj : ∀ j, 35 < j → rTk X3 (nI pl3) (nI nx3) kd3 wh3 87 j = X3 87 j := fun j h1 => rTk_j _ _ _ _ _ (by omega) (by omega) (by omega) (by omega)
  have q107 : X3 107 = X2 107 := hFr.1 107 (by decide) (by omega)
  have q108 : X3 108 = X2 108 := hFr.1 108 (by decide) (by omega)
  have m43 : ∀ j, j ≠ 8 → (fEx B l).2 43 j = B 43 j := fun j h => fEx_s (by unfold zSl; omega) (by decide) (Or.inl (by decide)) (Or.inl (by decide)) B
  have m42 : (fEx B l).2 42 6 = B 42 6 := fEx_s (by unfold zSl; omega) (by decide) (Or.inl (by decide)) (Or.inl (by decide)) B
  have m46 : ∀ j, j ≠ l → (fEx B l).2 46 j = B 46 j := fun j h => fEx_s (by unfold zSl; omega) (by decide) (Or.inl (by decide)) (Or.inr h) B
  have m47 : ∀ j, j ≠ l → (fEx B l).2 47 j = B 47 j := fun j h => fEx_s (by unfold zSl; omega) (by decide) (Or.inr h) (Or.inl (by decide)) B
  generalize fEx B l = R at *
  refine ⟨zFrT_tr hF (zFrT_tr (zFrT_L hFr) (zFrT_X (zFrX_tk _ _ _ _ _))), Or.inr ⟨hR, rfl, nx1, wr', b, dn', by omega, ⟨⟨hP.2.1.1, (xj 48 (by decide)).trans hP.2.1.2.1, hP.2.2.1.1, (xj 47 (by decide)).trans hP.2.2.1.2.1, hP.2.2.1.2.2.1⟩, fun j hj => by rw [xq 114 (by decide)]; exact hP.2.2.2.2.2.1 j hj, ⟨s7, m42.trans s8, fun v hv => by rw [xq 108 (by decide), q108]; exact s9 v hv, fun v => by rw [xq 108 (by decide), q108]; exact s10 v⟩, ⟨by rw [xq 107 (by decide), q107, m43 5 (by decide)]; exact s11, by rw [xq 107 (by decide), q107, m43 6 (by decide)]; exact s12, (m43 7 (by decide)).trans s13⟩, zKf_at (zKf_tr hO.2.2 (zKf_of (fun j hj => rTk_j _ _ _ _ _ (by omega) (by omega) (by omega) (by omega)) (fun j hj => rfl))) s14⟩, fun j hj => ?_, pl3, nx3, kd3, wh3, zTS_tk hT.1.2.1 ((hFr.2.2.2 31 (by omega)).trans hT.1.2.2.2.2.1) (by rw [d4, hFr.1 88 (by decide) (by omega)]; exact hT.1.2.2.2.2.2.1) (fun j hj => by rw [hFr.1 106 (by decide) (by omega)]; exact hT.1.2.2.2.2.2.2 j hj) d1 d2 c3 ht⟩⟩
  · by_cases e : j = l
    · subst e
      refine Or.inr ⟨hb, s, wr' - s, rt, by omega, f3, ?_, by rw [xq 115 (by decide)]; exact f1, by rw [xq 116 (by decide)]; exact f2, ?_⟩
      · rw [f4, show s + (wr' - s) = wr' by omega]
      · exact zTD_cg (fun _ _ => ⟨rfl, rfl⟩) (fun c _ _ => by rw [xq 110 (by decide), xq 111 (by decide), xq 112 (by decide), xq 113 (by decide)]; exact ⟨rfl, rfl, rfl, rfl⟩) hP.2.2.2.1.2.2
    · exact zLD_old (zOl_of (zOld_tr (Nat.le_refl _) hO ⟨fun c _ => by rw [xq 110 (by decide), xq 111 (by decide), xq 112 (by decide), xq 113 (by decide)]; exact ⟨rfl, rfl, rfl, rfl, rfl⟩, fun c _ => ⟨rfl, rfl⟩, zKf_of (fun j hj => rTk_j _ _ _ _ _ (by omega) (by omega) (by omega) (by omega)) (fun j hj => rfl)⟩)) hs' (m46 j e) (m47 j e) (by rw [xq 115 (by decide)]; exact (hFr.2.2.1 (5 + j) (by omega)).1) (by rw [xq 116 (by decide)]; exact (hFr.2.2.1 (5 + j) (by omega)).2) (hD j hj e)
/-- a setting is read -/
theorem zLnS {B X2 gi : zm_I} {n nx k s b sl q : Nat} {dn : Nat → Nat} {pl nx2 pl3 nx3 : Nat} {kd wh w0 kd3 wh3 : Int32} (v : Int32) (hq : (sl = 5 ∧ q = 2) ∨ (sl = 6 ∧ q = 3)) (hS : zLS s b k dn B X2) (hD : ∀ j, j < 5 → zLD B X2 dn s j (b.testBit (2 + j))) (hT : zTS n nx B X2 pl nx2 kd wh) (hF : zFrT gi X2) (g5 : nx2 ≤ n) (ht : rTkP (zs X2 107 q v 88) n nx2 w0 pl3 nx3 kd3 wh3) :
    zLS s b k dn (zs (fAv B) 43 sl v) (rTk (zs X2 107 q v) (nI pl3) (nI nx3) kd3 wh3) ∧ (∀ j, j < 5 → zLD (zs (fAv B) 43 sl v) (rTk (zs X2 107 q v) (nI pl3) (nI nx3) kd3 wh3) dn s j (b.testBit (2 + j))) ∧ zTS n nx2 (zs (fAv B) 43 sl v) (rTk (zs X2 107 q v) (nI pl3) (nI nx3) kd3 wh3) pl3 nx3 kd3 wh3 ∧ zFrT gi (rTk (zs X2 107 q v) (nI pl3) (nI nx3) kd3 wh3) := by
  obtain ⟨a2, a3, a4, a5, a6, a7, a8⟩ := zTS_av hT
  obtain ⟨⟨s1, s2, s3, s4, s5⟩, s6, ⟨s7, s8, s9, s10⟩, ⟨s11, s12, s13⟩, s14⟩ := hS
  have xq : ∀ a, a ≠ 87 → a ≠ 107 → rTk (zs X2 107 q v) (nI pl3) (nI nx3) kd3 wh3 a = X2 a := fun a h1 h2 => by rw [rTk_nq _ _ _ _ _ h1, zs_nq h2]
  have xj : ∀ j, 35 < j → rTk (zs X2 107 q v) (nI pl3) (nI nx3) kd3 wh3 87 j = X2 87 j := fun j h1 => by rw [rTk_j _ _ _ _ _ (by omega) (by omega) (by omega) (by omega), zs_nq (by decide)]
  have mq : ∀ a, a ≠ 43 → a ≠ 50 → zs (fAv B) 43 sl v a = B a := fun a h2 h3 => by rw [zs_nq h2, fAv_q B h3]
  have m43 : ∀ j, j ≠ sl → zs (fAv B) 43 sl v 43 j = B 43 j := fun j h => by rw [zs_nj h, fAv_q B (by decide)]
  have m50 : zs (fAv B) 43 sl v 50 = fAv B 50 := zs_nq (by decide)
  refine ⟨⟨⟨by rw [mq 42 (by decide) (by decide)]; exact s1, (xj 48 (by decide)).trans s2, (m43 8 (by omega)).trans s3, (xj 47 (by decide)).trans s4, s5⟩, fun j hj => by rw [xq 114 (by decide) (by decide)]; exact s6 j hj, ⟨s7, by rw [mq 42 (by decide) (by decide)]; exact s8, fun v hv => by rw [xq 108 (by decide) (by decide)]; exact s9 v hv, fun v => by rw [xq 108 (by decide) (by decide)]; exact s10 v⟩, ⟨?_, ?_, (m43 7 (by omega)).trans s13⟩, zKf_at (zKf_of (fun j hj => by rw [rTk_j _ _ _ _ _ (by omega) (by omega) (by omega) (by omega), zs_nq (by decide)]) (fun j hj => by rw [mq 42 (by decide) (by decide)])) s14⟩, fun l hl => ?_, ?_, ?_⟩
  · rw [rTk_nq _ _ _ _ _ (by decide)]
    rcases hq with ⟨h1, h2⟩ | ⟨h1, h2⟩
    · rw [h1, h2, zs_eq, zs_eq]
    · rw [zs_nj (by omega), m43 5 (by omega)]; exact s11
  · rw [rTk_nq _ _ _ _ _ (by decide)]
    rcases hq with ⟨h1, h2⟩ | ⟨h1, h2⟩
    · rw [zs_nj (by omega), m43 6 (by omega)]; exact s12
    · rw [h1, h2, zs_eq, zs_eq]
  · exact zLD_old (M := B) (X := X2) (dn := dn) ⟨fun j _ => by rw [xq 110 (by decide) (by decide), xq 111 (by decide) (by decide), xq 112 (by decide) (by decide), xq 113 (by decide) (by decide)]; exact ⟨rfl, rfl, rfl, rfl, rfl⟩, fun c _ => by rw [mq 44 (by decide) (by decide), mq 45 (by decide) (by decide)]; exact ⟨rfl, rfl⟩⟩ (Nat.le_refl _) (by rw [mq 46 (by decide) (by decide)]) (by rw [mq 47 (by decide) (by decide)]) (by rw [xq 115 (by decide) (by decide)]) (by rw [xq 116 (by decide) (by decide)]) (hD l hl)
  · exact zTS_tk hT.1.2.1 (by rw [zs_nq (by decide)]; exact hT.1.2.2.2.2.1) (by rw [mq 1 (by decide) (by decide), zs_nq (by decide)]; exact hT.1.2.2.2.2.2.1) (fun j hj => by rw [zs_nq (by decide)]; exact hT.1.2.2.2.2.2.2 j hj) (by rw [m50]; exact a6) (by rw [m50]; exact a3) a5 ht
  · exact zFrT_tr hF (zFrT_tr (zFrT_107 X2 q _ (by omega)) (zFrT_X (zFrX_tk _ _ _ _ _)))
/-- the end of a setting's line -/
theorem zLnT {N1 X3 gi : zm_I} {n i nx2 k s b : Nat} {dn : Nat → Nat} {pl3 nx3 pl4 nx4 : Nat} {kd3 wh3 w0 kd4 wh4 : Int32} (hS : zLS s b (k + 1) dn N1 X3) (hD : ∀ j, j < 5 → zLD N1 X3 dn s j (b.testBit (2 + j))) (hT : zTS n nx2 N1 X3 pl3 nx3 kd3 wh3) (hF : zFrT gi X3) (hi : i < nx3) (ht : rTkP (X3 88) n nx3 w0 pl4 nx4 kd4 wh4) {R : Bool × zm_I} (hR : R = (true, fAv N1)) :
    zLnE n i k gi R (nI 1) (rTk X3 (nI pl4) (nI nx4) kd4 wh4) := by
  obtain ⟨a2, a3, a4, a5, a6, a7, a8⟩ := zTS_av hT
  obtain ⟨⟨s1, s2, s3, s4, s5⟩, s6, ⟨s7, s8, s9, s10⟩, ⟨s11, s12, s13⟩, s14⟩ := hS
  have xq : ∀ a, a ≠ 87 → rTk X3 (nI pl4) (nI nx4) kd4 wh4 a = X3 a := fun a h1 => rTk_nq _ _ _ _ _ h1
  have xj : ∀ j, 35 < j → rTk X3 (nI pl4) (nI nx4) kd4 wh4 87 j = X3 87 j := fun j h1 => rTk_j _ _ _ _ _ (by omega) (by omega) (by omega) (by omega)
  have mq : ∀ a, a ≠ 50 → fAv N1 a = N1 a := fun a h3 => fAv_q N1 h3
  have r1 : R.1 = true := by rw [hR]
  have r2 : R.2 = fAv N1 := by rw [hR]
  rw [← r2] at a3 a6 mq
  refine ⟨zFrT_tr hF (zFrT_X (zFrX_tk _ _ _ _ _)), Or.inr ⟨r1, rfl, nx3, s, b, dn, hi, ⟨⟨by rw [mq 42 (by decide)]; exact s1, (xj 48 (by decide)).trans s2, by rw [mq 43 (by decide)]; exact s3, (xj 47 (by decide)).trans s4, s5⟩, fun j hj => by rw [xq 114 (by decide)]; exact s6 j hj, ⟨s7, by rw [mq 42 (by decide)]; exact s8, fun v hv => by rw [xq 108 (by decide)]; exact s9 v hv, fun v => by rw [xq 108 (by decide)]; exact s10 v⟩, ⟨by rw [xq 107 (by decide), mq 43 (by decide)]; exact s11, by rw [xq 107 (by decide), mq 43 (by decide)]; exact s12, by rw [mq 43 (by decide)]; exact s13⟩, zKf_at (zKf_of (fun j hj => rTk_j _ _ _ _ _ (by omega) (by omega) (by omega) (by omega)) (fun j hj => by rw [mq 42 (by decide)])) s14⟩, fun l hl => ?_, pl4, nx4, kd4, wh4, ?_⟩⟩
  · exact zLD_old (M := N1) (X := X3) (dn := dn) ⟨fun j _ => by rw [xq 110 (by decide), xq 111 (by decide), xq 112 (by decide), xq 113 (by decide)]; exact ⟨rfl, rfl, rfl, rfl, rfl⟩, fun c _ => by rw [mq 44 (by decide), mq 45 (by decide)]; exact ⟨rfl, rfl⟩⟩ (Nat.le_refl _) (by rw [mq 46 (by decide)]) (by rw [mq 47 (by decide)]) (by rw [xq 115 (by decide)]) (by rw [xq 116 (by decide)]) (hD l hl)
  · exact zTS_tk hT.1.2.1 hT.1.2.2.2.2.1 (by rw [mq 1 (by decide)]; exact hT.1.2.2.2.2.2.1) hT.1.2.2.2.2.2.2 a6 a3 a5 ht
theorem ct_rLine (g : zm_G) (gi : zm_I) (gl : zm_J) (r : Nat) (M : zm_I) {n i k s b : Nat} {dn : Nat → Nat} {pl nx : Nat} {kd wh : Int32} (hS : zLS s b k dn M gi) (hD : ∀ l, l < 5 → zLD M gi dn s l (b.testBit (2 + l))) (hT : zTS n i M gi pl nx kd wh)  : zC_i g yX11_line mX11_line 6 [.ref 87] zSH gi gl (zRT r) (fun z gi' gl' gr' => zLnE n i k gi (fTl M) z gi' ∧ gl' = gl ∧ gr' = zRT r) := by
  refine zC_i_of [some (.ref 87), none] (by decide) rfl rfl (Nat.le_of_ble_eq_true rfl) (fun x => ?_)
  obtain ⟨a2, a3, a4, a5, a6, a7, a8⟩ := zTS_av hT
  obtain ⟨w0, htk⟩ := hT.2.1
  have hple := rTkP_le hT.1.2.2.2.1 htk
  have hn5 := hT.1.2.1
  have hR : fTl M = fRl (fAv M) pl nx := by
    unfold fTl
    rw [a2, a3, zi_nI (by omega), zi_nI (by omega)]
  have h31 := hT.1.2.2.2.2.1
  have h35 := hT.2.2.1
  have h32 := hT.2.2.2.1
  have h33 := hT.2.2.2.2.1
  have h34 := hT.2.2.2.2.2
  rcases zTkL hT.1.1 hT.1.2.1 hT.1.2.2.1 hT.1.2.2.2.1 hT.1.2.2.2.2.2.1 htk with ⟨w, hw6, hk1, hk2, hlw⟩ | ⟨hlw, hno⟩
  · rw [hk1] at h33
    rw [hk2] at h34
    have hb7 := hS.2.2.1.1
    have hRA : fTl M = fRlL (fAv M) w := by
      rw [hR]
      unfold fRl
      rw [hlw, if_neg (nI_nm1 (by omega)), zi_nI (by omega)]
    have e42 : fAv M 42 6 = nI b := by rw [fAv_q M (by decide)]; exact hS.2.2.1.2.1
    have hbt := (zbt b hb7 w (by omega)).1
    refine zA_aload_0 dX11_line_0 ?_
    refine zA_getI (v := (nI 1)) sh_87 fX11_231 dX11_line_1 rfl h33 ?_
    refine zA_iconst (nI 1) dX11_line_4 ic_1 ?_
    refine zA_icmp_neN 17 dX11_line_5 (by decide) (by decide) (by decide) (fun hh => absurd hh (by decide)) (fun _ => ?_)
    refine zA_aload_0 dX11_line_8 ?_
    refine zA_getI (v := (nI w)) sh_87 fX11_241 dX11_line_9 rfl h34 ?_
    refine zA_bipush (nI 6) dX11_line_12 bc_6 ?_
    refine zA_icmp_leN 23 dX11_line_14 (by decide) (by omega) (by omega) (fun hk3 => ?_) (fun hk3 => ?_)
    · refine zA_aload_0 dX11_line_23 ?_
      refine zA_getI (v := (nI w)) sh_87 fX11_241 dX11_line_24 rfl h34 ?_
      refine zA_istore_1 dX11_line_27 rfl ?_
      refine zA_aload_0 dX11_line_28 ?_
      refine zA_getR sh_87 fX11_75 dX11_line_29 rfl (rt_87_37 _) ?_
      refine zA_iload_1 dX11_line_32 ?_
      refine zA_zald (v := (zb (b.testBit w = true))) w sh_108 dX11_line_33 rfl (by omega) (by decide) ((hS.2.2.1.2.2.1 w (by omega))) ?_
      refine zA_if_eqB 43 dX11_line_34 (by decide) (fun htd => ?_) (fun htd => ?_)
      · have hRB : fTl M = (if w < 2 then fRs (fRlM (fAv M) w) (nI w) else fEx (fRlM (fAv M) w) (w - 2)) := by rw [hRA]; unfold fRlL; rw [e42, if_neg (fun q => htd (hbt.mp q))]
        refine zA_aload_0 dX11_line_43 ?_
        refine zA_getR sh_87 fX11_75 dX11_line_44 rfl (rt_87_37 _) ?_
        refine zA_iload_1 dX11_line_47 ?_
        refine zA_iconst (nI 1) dX11_line_48 ic_1 ?_
        refine zS_zast w sh_108 dX11_line_49 rfl (by omega) (by decide) (by decide) ?_
        refine zA_aload_0 dX11_line_50 ?_
        refine zA_cVv (ct_rTake g ((zs gi 108 w ((nI 1)))) gl r (fun j hj => by rw [zs_nq (by decide)]; exact hT.1.2.2.2.2.2.2 j hj) (by rw [zs_nq (by decide)]; exact h31) hn5 (by rw [zs_nq (by decide)]; exact h32) a5) calX11_take stX11_take lX11_289 dX11_line_51 (by decide) (by simp [Value.category]) rfl (Nat.le_refl _) (Nat.le_refl _) sh_87 rfl (fun gi' gl' gr' ⟨pl2, nx2, kd2, wh2, ht, e1, e2, e3⟩ => ?_)
        rw [e1, e2, e3]
        clear e1 e2 e3
        obtain ⟨hLS2, hD2, hT2, hF2⟩ := zLn1 hS hD hT (by omega) htd ht
        have hin : i < nx := a8 (by rw [hk1]; decide)
        have hb1 : (b ||| 1 <<< w).testBit w = true := by rw [zbt2, if_pos rfl]
        generalize (b ||| 1 <<< w) = b2 at hLS2 hD2 hb1
        generalize fRlM (fAv M) w = B at hRB hLS2 hD2 hT2
        generalize (rTk ((zs gi 108 w ((nI 1)))) (nI pl2) (nI nx2) kd2 wh2) = X2 at hLS2 hD2 hT2 hF2 ⊢
        clear hRA hlw hR ht e42 hbt
        refine zA_iload_1 dX11_line_54 ?_
        refine zA_iconst (nI 1) dX11_line_55 ic_1 ?_
        refine zA_icmp_leN 71 dX11_line_56 (by decide) (by omega) (by omega) (fun hw1 => ?_) (fun hw1 => ?_)
        · rw [if_pos (by omega)] at hRB
          obtain ⟨g2, g3, g4, g5, g6, g7, g8⟩ := zTS_av hT2
          have k33 := hT2.2.2.2.2.1
          have k34 := hT2.2.2.2.2.2
          have hRC : fTl M = fRsM (fAv B) (nI w) := hRB
          refine zA_aload_0 dX11_line_71 ?_
          refine zA_getI (v := kd2) sh_87 fX11_231 dX11_line_72 rfl k33 ?_
          refine zA_iconst (nI 2) dX11_line_75 ic_2 ?_
          refine zA_icmp_eq 85 dX11_line_76 (by decide) (fun hk4 => ?_) (fun hk4 => ?_)
          · rcases zTl_num g4 with ⟨_, hk3, hnv⟩ | ⟨q, _⟩
            case inr => exact absurd hk4 q
            have hRD : fTl M = (if fCan (nI w) (fAv B 50 5) then fRsE (zs (fAv B) 43 (if nI w = 0 then 5 else 6) (fAv B 50 5)) else (false, fFail (fAv B) (nI 2))) := by
              rw [hRC]
              unfold fRsM
              rw [if_pos hk3]
            clear hRC hRB
            rcases (show w = 0 ∨ w = 1 by omega) with rfl | rfl
            · have hcn := zNv_can hnv 900 (by decide)
              refine zA_aload_0 dX11_line_85 ?_
              refine zA_getI (v := wh2) sh_87 fX11_241 dX11_line_86 rfl k34 ?_
              refine zA_iload_1 dX11_line_89 ?_
              refine zA_if_ne 98 dX11_line_90 (by decide) (fun hh => absurd hh (by decide)) (fun _ => ?_)
              refine zA_bipush (nI 60) dX11_line_93 bc_60 ?_
              refine zA_goto 99 dX11_line_95 (by decide) ?_
              refine zA_iload_1 dX11_line_99 ?_
              refine zA_if_ne 109 dX11_line_100 (by decide) (fun hh => absurd hh (by decide)) (fun _ => ?_)
              refine zA_sipush (nI 900) dX11_line_103 sc_900 ?_
              refine zA_goto 111 dX11_line_106 (by decide) ?_
              refine zA_cSi (ct_rIsIn g _ _ _ wh2 (nI 60) (nI 900)) calX11_isIn stX11_isIn lX11_172 dX11_line_111 (by decide) (by simp [Value.category]) rfl (Nat.le_refl _) (Nat.le_refl _) (fun zz gi' gl' gr' ⟨hz, e1, e2, e3⟩ => ?_)
              rw [hz, e1, e2, e3]
              clear hz e1 e2 e3
              refine zA_if_neB 123 dX11_line_114 (by decide) (fun hr => ?_) (fun hr => ?_)
              · have hv := hcn.2 hr.2
                have hRE : fTl M = fRsE (zs (fAv B) 43 5 wh2) := by
                  rw [hRD, if_pos (by rw [hv]; exact Or.inl ⟨rfl, hr.1, hr.2⟩), hv]
                  rw [if_pos (by decide)]
                refine zA_aload_0 dX11_line_123 ?_
                refine zA_getR sh_87 fX11_72 dX11_line_124 rfl (rt_87_36 _) ?_
                refine zA_iconst (nI 2) dX11_line_127 ic_2 ?_
                refine zA_iload_1 dX11_line_128 ?_
                refine zA_iaddN dX11_line_129 ?_
                refine zA_aload_0 dX11_line_130 ?_
                refine zA_getI (v := wh2) sh_87 fX11_241 dX11_line_131 rfl k34 ?_
                refine zS_iast 2 sh_107 dX11_line_134 rfl (by decide) (by decide) ?_
                refine zA_aload_0 dX11_line_135 ?_
                refine zA_cVv (ct_rTake g ((zs X2 107 2 wh2)) gl r (fun j hj => by rw [zs_nq (by decide)]; exact hT2.1.2.2.2.2.2.2 j hj) (by rw [zs_nq (by decide)]; exact hT2.1.2.2.2.2.1) hn5 (by rw [zs_nq (by decide)]; exact hT2.2.2.2.1) g5) calX11_take stX11_take lX11_289 dX11_line_136 (by decide) (by simp [Value.category]) rfl (Nat.le_refl _) (Nat.le_refl _) sh_87 rfl (fun gi' gl' gr' ⟨pl3, nx3, kd3, wh3, ht, e1, e2, e3⟩ => ?_)
                rw [e1, e2, e3]
                clear e1 e2 e3
                obtain ⟨hLS3, hD3, hT3, hF3⟩ := zLnS wh2 (Or.inl ⟨rfl, rfl⟩) hLS2 (fun j hj => hD2 j hj (by omega)) hT2 hF2 g5 ht
                obtain ⟨y2, y3, y4, y5, y6, y7, y8⟩ := zTS_av hT3
                generalize zs (fAv B) 43 5 wh2 = N1 at hRE hLS3 hD3 hT3 y2 y3 y4 y6
                generalize (rTk ((zs X2 107 2 wh2)) (nI pl3) (nI nx3) kd3 wh3) = X3 at hLS3 hD3 hT3 hF3 ⊢
                have hend := zTl_end y4
                rw [← hT3.2.2.2.2.1, ← hT3.2.2.2.2.2] at hend
                refine zA_aload_0 dX11_line_139 ?_
                refine zA_bipush (nI 59) dX11_line_140 bc_59 ?_
                refine zA_cVi (ct_rIsSign g X3 gl r (nI 59)) calX11_isSign stX11_isSign lX11_292 dX11_line_142 (by decide) (by simp [Value.category]) rfl (Nat.le_refl _) (Nat.le_refl _) sh_87 rfl (fun zz gi' gl' gr' ⟨hz, e1, e2, e3⟩ => ?_)
                rw [hz, e1, e2, e3]
                clear hz e1 e2 e3
                refine zA_if_neB 154 dX11_line_145 (by decide) (fun hsg => ?_) (fun hsg => ?_)
                · have hRF : fTl M = (true, fAv N1) := by rw [hRE]; unfold fRsE; rw [if_pos (hend.mpr hsg)]
                  refine zA_aload_0 dX11_line_154 ?_
                  refine zA_cVv (ct_rTake g X3 gl r hT3.1.2.2.2.2.2.2 hT3.1.2.2.2.2.1 hn5 hT3.2.2.2.1 y5) calX11_take stX11_take lX11_289 dX11_line_155 (by decide) (by simp [Value.category]) rfl (Nat.le_refl _) (Nat.le_refl _) sh_87 rfl (fun gi' gl' gr' ⟨pl4, nx4, kd4, wh4, ht4, e1, e2, e3⟩ => ?_)
                  rw [e1, e2, e3]
                  clear e1 e2 e3
                  refine zA_iconst (nI 1) dX11_line_158 ic_1 ?_
                  exact zB_zret rfl dX11_line_159 (by decide) (⟨zLnT hLS3 hD3 hT3 hF3 (by omega) ht4 hRF, rfl, rfl⟩)
                · have hRF : fTl M = (false, fFail (fAv N1) (nI 1)) := by rw [hRE]; unfold fRsE; rw [if_neg (fun q => hsg (hend.mp q))]
                  refine zA_aload_0 dX11_line_148 ?_
                  refine zA_iconst (nI 1) dX11_line_149 ic_1 ?_
                  refine zA_cVi (ct_rWrong g X3 gl r (nI 1)) calX11_wrong stX11_wrong lX11_255 dX11_line_150 (by decide) (by simp [Value.category]) rfl (Nat.le_refl _) (Nat.le_refl _) sh_87 rfl (fun zz gi' gl' gr' ⟨hz, e1, e2, e3⟩ => ?_)
                  rw [hz, e1, e2, e3]
                  clear hz e1 e2 e3
                  exact zB_zret rfl dX11_line_153 (by decide) (⟨zLnE_bad (N := fAv N1) (hF3) hRF y2 hT3.2.2.1, rfl, rfl⟩)
              · have hRE : fTl M = (false, fFail (fAv B) (nI 2)) := by
                  rw [hRD, if_neg]
                  rintro (⟨q0, q1, q2⟩ | ⟨q0, q1, q2⟩)
                  · exact hr ⟨by rw [← hcn.2 (hcn.1.mp q2)]; exact q1, hcn.1.mp q2⟩
                  · exact absurd rfl q0
                refine zA_aload_0 dX11_line_117 ?_
                refine zA_iconst (nI 2) dX11_line_118 ic_2 ?_
                refine zA_cVi (ct_rWrong g X2 gl r (nI 2)) calX11_wrong stX11_wrong lX11_255 dX11_line_119 (by decide) (by simp [Value.category]) rfl (Nat.le_refl _) (Nat.le_refl _) sh_87 rfl (fun zz gi' gl' gr' ⟨hz, e1, e2, e3⟩ => ?_)
                rw [hz, e1, e2, e3]
                clear hz e1 e2 e3
                exact zB_zret rfl dX11_line_122 (by decide) (⟨zLnE_bad (N := fAv B) (hF2) hRE g2 hT2.2.2.1, rfl, rfl⟩)
            · have hcn := zNv_can hnv 99 (by decide)
              refine zA_aload_0 dX11_line_85 ?_
              refine zA_getI (v := wh2) sh_87 fX11_241 dX11_line_86 rfl k34 ?_
              refine zA_iload_1 dX11_line_89 ?_
              refine zA_if_ne 98 dX11_line_90 (by decide) (fun _ => ?_) (fun hh => absurd hh (by decide))
              refine zA_iconst (nI 0) dX11_line_98 ic_0 ?_
              refine zA_iload_1 dX11_line_99 ?_
              refine zA_if_ne 109 dX11_line_100 (by decide) (fun _ => ?_) (fun hh => absurd hh (by decide))
              refine zA_bipush (nI 99) dX11_line_109 bc_99 ?_
              refine zA_cSi (ct_rIsIn g _ _ _ wh2 (nI 0) (nI 99)) calX11_isIn stX11_isIn lX11_172 dX11_line_111 (by decide) (by simp [Value.category]) rfl (Nat.le_refl _) (Nat.le_refl _) (fun zz gi' gl' gr' ⟨hz, e1, e2, e3⟩ => ?_)
              rw [hz, e1, e2, e3]
              clear hz e1 e2 e3
              refine zA_if_neB 123 dX11_line_114 (by decide) (fun hr => ?_) (fun hr => ?_)
              · have hv := hcn.2 hr.2
                have hRE : fTl M = fRsE (zs (fAv B) 43 6 wh2) := by
                  rw [hRD, if_pos (by rw [hv]; exact Or.inr ⟨by decide, hr.1, hr.2⟩), hv]
                  rw [if_neg (by decide)]
                refine zA_aload_0 dX11_line_123 ?_
                refine zA_getR sh_87 fX11_72 dX11_line_124 rfl (rt_87_36 _) ?_
                refine zA_iconst (nI 2) dX11_line_127 ic_2 ?_
                refine zA_iload_1 dX11_line_128 ?_
                refine zA_iaddN dX11_line_129 ?_
                refine zA_aload_0 dX11_line_130 ?_
                refine zA_getI (v := wh2) sh_87 fX11_241 dX11_line_131 rfl k34 ?_
                refine zS_iast 3 sh_107 dX11_line_134 rfl (by decide) (by decide) ?_
                refine zA_aload_0 dX11_line_135 ?_
                refine zA_cVv (ct_rTake g ((zs X2 107 3 wh2)) gl r (fun j hj => by rw [zs_nq (by decide)]; exact hT2.1.2.2.2.2.2.2 j hj) (by rw [zs_nq (by decide)]; exact hT2.1.2.2.2.2.1) hn5 (by rw [zs_nq (by decide)]; exact hT2.2.2.2.1) g5) calX11_take stX11_take lX11_289 dX11_line_136 (by decide) (by simp [Value.category]) rfl (Nat.le_refl _) (Nat.le_refl _) sh_87 rfl (fun gi' gl' gr' ⟨pl3, nx3, kd3, wh3, ht, e1, e2, e3⟩ => ?_)
                rw [e1, e2, e3]
                clear e1 e2 e3
                obtain ⟨hLS3, hD3, hT3, hF3⟩ := zLnS wh2 (Or.inr ⟨rfl, rfl⟩) hLS2 (fun j hj => hD2 j hj (by omega)) hT2 hF2 g5 ht
                obtain ⟨y2, y3, y4, y5, y6, y7, y8⟩ := zTS_av hT3
                generalize zs (fAv B) 43 6 wh2 = N1 at hRE hLS3 hD3 hT3 y2 y3 y4 y6
                generalize (rTk ((zs X2 107 3 wh2)) (nI pl3) (nI nx3) kd3 wh3) = X3 at hLS3 hD3 hT3 hF3 ⊢
                have hend := zTl_end y4
                rw [← hT3.2.2.2.2.1, ← hT3.2.2.2.2.2] at hend
                refine zA_aload_0 dX11_line_139 ?_
                refine zA_bipush (nI 59) dX11_line_140 bc_59 ?_
                refine zA_cVi (ct_rIsSign g X3 gl r (nI 59)) calX11_isSign stX11_isSign lX11_292 dX11_line_142 (by decide) (by simp [Value.category]) rfl (Nat.le_refl _) (Nat.le_refl _) sh_87 rfl (fun zz gi' gl' gr' ⟨hz, e1, e2, e3⟩ => ?_)
                rw [hz, e1, e2, e3]
                clear hz e1 e2 e3
                refine zA_if_neB 154 dX11_line_145 (by decide) (fun hsg => ?_) (fun hsg => ?_)
                · have hRF : fTl M = (true, fAv N1) := by rw [hRE]; unfold fRsE; rw [if_pos (hend.mpr hsg)]
                  refine zA_aload_0 dX11_line_154 ?_
                  refine zA_cVv (ct_rTake g X3 gl r hT3.1.2.2.2.2.2.2 hT3.1.2.2.2.2.1 hn5 hT3.2.2.2.1 y5) calX11_take stX11_take lX11_289 dX11_line_155 (by decide) (by simp [Value.category]) rfl (Nat.le_refl _) (Nat.le_refl _) sh_87 rfl (fun gi' gl' gr' ⟨pl4, nx4, kd4, wh4, ht4, e1, e2, e3⟩ => ?_)
                  rw [e1, e2, e3]
                  clear e1 e2 e3
                  refine zA_iconst (nI 1) dX11_line_158 ic_1 ?_
                  exact zB_zret rfl dX11_line_159 (by decide) (⟨zLnT hLS3 hD3 hT3 hF3 (by omega) ht4 hRF, rfl, rfl⟩)
                · have hRF : fTl M = (false, fFail (fAv N1) (nI 1)) := by rw [hRE]; unfold fRsE; rw [if_neg (fun q => hsg (hend.mp q))]
                  refine zA_aload_0 dX11_line_148 ?_
                  refine zA_iconst (nI 1) dX11_line_149 ic_1 ?_
                  refine zA_cVi (ct_rWrong g X3 gl r (nI 1)) calX11_wrong stX11_wrong lX11_255 dX11_line_150 (by decide) (by simp [Value.category]) rfl (Nat.le_refl _) (Nat.le_refl _) sh_87 rfl (fun zz gi' gl' gr' ⟨hz, e1, e2, e3⟩ => ?_)
                  rw [hz, e1, e2, e3]
                  clear hz e1 e2 e3
                  exact zB_zret rfl dX11_line_153 (by decide) (⟨zLnE_bad (N := fAv N1) (hF3) hRF y2 hT3.2.2.1, rfl, rfl⟩)
              · have hRE : fTl M = (false, fFail (fAv B) (nI 2)) := by
                  rw [hRD, if_neg]
                  rintro (⟨q0, q1, q2⟩ | ⟨q0, q1, q2⟩)
                  · exact absurd q0 (by decide)
                  · exact hr ⟨by rw [← hcn.2 (hcn.1.mp q2)]; exact q1, hcn.1.mp q2⟩
                refine zA_aload_0 dX11_line_117 ?_
                refine zA_iconst (nI 2) dX11_line_118 ic_2 ?_
                refine zA_cVi (ct_rWrong g X2 gl r (nI 2)) calX11_wrong stX11_wrong lX11_255 dX11_line_119 (by decide) (by simp [Value.category]) rfl (Nat.le_refl _) (Nat.le_refl _) sh_87 rfl (fun zz gi' gl' gr' ⟨hz, e1, e2, e3⟩ => ?_)
                rw [hz, e1, e2, e3]
                clear hz e1 e2 e3
                exact zB_zret rfl dX11_line_122 (by decide) (⟨zLnE_bad (N := fAv B) (hF2) hRE g2 hT2.2.2.1, rfl, rfl⟩)
          · have hRD : fTl M = (false, fFail (fAv B) (nI 1)) := by
              rcases zTl_num g4 with ⟨q, _⟩ | ⟨_, q⟩
              · exact absurd q hk4
              · rw [hRC]
                unfold fRsM
                rw [if_neg q]
            refine zA_aload_0 dX11_line_79 ?_
            refine zA_iconst (nI 1) dX11_line_80 ic_1 ?_
            refine zA_cVi (ct_rWrong g X2 gl r (nI 1)) calX11_wrong stX11_wrong lX11_255 dX11_line_81 (by decide) (by simp [Value.category]) rfl (Nat.le_refl _) (Nat.le_refl _) sh_87 rfl (fun zz gi' gl' gr' ⟨hz, e1, e2, e3⟩ => ?_)
            rw [hz, e1, e2, e3]
            clear hz e1 e2 e3
            exact zB_zret rfl dX11_line_84 (by decide) (⟨zLnE_bad (N := fAv B) (hF2) hRD g2 hT2.2.2.1, rfl, rfl⟩)
        · rw [if_neg (by omega)] at hRB
          refine zA_aload_0 dX11_line_59 ?_
          refine zA_iload_1 dX11_line_60 ?_
          refine zA_iconst (nI 2) dX11_line_61 ic_2 ?_
          refine zA_isubN dX11_line_62 (by omega) ?_
          refine zA_cVi (ct_rExpression g X2 gl r B (l := w - 2) (by omega) hT2 hLS2.1.1 hLS2.1.2.1 hLS2.1.2.2.1 hLS2.1.2.2.2.1 hLS2.1.2.2.2.2 hLS2.2.1) calX11_expression stX11_expression lX11_323 dX11_line_63 (by decide) (by simp [Value.category]) rfl (Nat.le_refl _) (Nat.le_refl _) sh_87 rfl (fun zz X3 gl' gr' ⟨hE, e2, e3⟩ => ?_)
          rw [e2, e3]
          clear e2 e3
          rcases hE with ⟨hFr, ⟨b1, hz, b2, b3⟩ | ⟨b1, hz, b2, b3, b4⟩ | ⟨b1, hz, b2, i1, nx1, wr1, rt, dn1, c1, c2, c3, ⟨d1, d2, d3, d4⟩, hP, hO, f1, f2, f3, f4⟩⟩
          · rw [hz]
            clear hz
            refine zA_if_ne 139 dX11_line_66 (by decide) (fun hh => absurd hh (by decide)) (fun _ => ?_)
            refine zA_iconst (nI 0) dX11_line_69 ic_0 ?_
            exact zB_zret rfl dX11_line_70 (by decide) (⟨⟨zFrT_tr hF2 (zFrT_L hFr), Or.inl ⟨by rw [hRB]; exact b1, rfl, by rw [hRB]; exact b2, by rw [hRB]; exact b3⟩⟩, rfl, rfl⟩)
          · rw [hz]
            clear hz
            refine zA_if_ne 139 dX11_line_66 (by decide) (fun _ => ?_) (fun hh => absurd hh (by decide))
            refine zA_aload_0 dX11_line_139 ?_
            refine zA_bipush (nI 59) dX11_line_140 bc_59 ?_
            refine zA_cVi (ct_rIsSign g X3 gl r (nI 59)) calX11_isSign stX11_isSign lX11_292 dX11_line_142 (by decide) (by simp [Value.category]) rfl (Nat.le_refl _) (Nat.le_refl _) sh_87 rfl (fun zz gi' gl' gr' ⟨hz, e1, e2, e3⟩ => ?_)
            rw [hz, e1, e2, e3]
            clear hz e1 e2 e3
            refine zA_if_neB 154 dX11_line_145 (by decide) (fun hsg => ?_) (fun hsg => ?_)
            · exact absurd hsg b2
            · refine zA_aload_0 dX11_line_148 ?_
              refine zA_iconst (nI 1) dX11_line_149 ic_1 ?_
              refine zA_cVi (ct_rWrong g X3 gl r (nI 1)) calX11_wrong stX11_wrong lX11_255 dX11_line_150 (by decide) (by simp [Value.category]) rfl (Nat.le_refl _) (Nat.le_refl _) sh_87 rfl (fun zz gi' gl' gr' ⟨hz, e1, e2, e3⟩ => ?_)
              rw [hz, e1, e2, e3]
              clear hz e1 e2 e3
              exact zB_zret rfl dX11_line_153 (by decide) (⟨⟨zFrT_tr hF2 (zFrT_tr (zFrT_L hFr) (zFrT_X (zFrX_wr X3 _))), Or.inl ⟨by rw [hRB]; exact b1, rfl, by rw [hRB]; exact b3.symm, by rw [hRB]; exact b4⟩⟩, rfl, rfl⟩)
          · rw [hz]
            clear hz
            refine zA_if_ne 139 dX11_line_66 (by decide) (fun _ => ?_) (fun hh => absurd hh (by decide))
            refine zA_aload_0 dX11_line_139 ?_
            refine zA_bipush (nI 59) dX11_line_140 bc_59 ?_
            refine zA_cVi (ct_rIsSign g X3 gl r (nI 59)) calX11_isSign stX11_isSign lX11_292 dX11_line_142 (by decide) (by simp [Value.category]) rfl (Nat.le_refl _) (Nat.le_refl _) sh_87 rfl (fun zz gi' gl' gr' ⟨hz, e1, e2, e3⟩ => ?_)
            rw [hz, e1, e2, e3]
            clear hz e1 e2 e3
            refine zA_if_neB 154 dX11_line_145 (by decide) (fun hsg => ?_) (fun hsg => ?_)
            · refine zA_aload_0 dX11_line_154 ?_
              refine zA_cVv (ct_rTake g X3 gl r (fun j hj => by rw [hFr.1 106 (by decide) (by omega)]; exact hT2.1.2.2.2.2.2.2 j hj) ((hFr.2.2.2 31 (by omega)).trans hT2.1.2.2.2.2.1) hn5 d3 c3) calX11_take stX11_take lX11_289 dX11_line_155 (by decide) (by simp [Value.category]) rfl (Nat.le_refl _) (Nat.le_refl _) sh_87 rfl (fun gi' gl' gr' ⟨pl3, nx3, kd3, wh3, ht, e1, e2, e3⟩ => ?_)
              rw [e1, e2, e3]
              clear e1 e2 e3
              refine zA_iconst (nI 1) dX11_line_158 ic_1 ?_
              exact zB_zret rfl dX11_line_159 (by decide) (⟨zLnX hLS2 (by rw [show 2 + (w - 2) = w by omega]; exact hb1) (fun j hj hne => hD2 j hj (by omega)) hT2 hF2 hin hFr c1 c2 c3 d1 d2 d4 hP hO f1 f2 f3 f4 ht b1 hRB, rfl, rfl⟩)
            · exact absurd b2 hsg
      · have hRB : fTl M = (false, fFail (fAv M) (nI 3)) := by rw [hRA]; unfold fRlL; rw [e42, if_pos (hbt.mpr htd)]
        refine zA_aload_0 dX11_line_37 ?_
        refine zA_iconst (nI 3) dX11_line_38 ic_3 ?_
        refine zA_cVi (ct_rWrong g gi gl r (nI 3)) calX11_wrong stX11_wrong lX11_255 dX11_line_39 (by decide) (by simp [Value.category]) rfl (Nat.le_refl _) (Nat.le_refl _) sh_87 rfl (fun zz gi' gl' gr' ⟨hz, e1, e2, e3⟩ => ?_)
        rw [hz, e1, e2, e3]
        clear hz e1 e2 e3
        exact zB_zret rfl dX11_line_42 (by decide) (⟨zLnE_bad (N := fAv M) (zFrT_rf gi) hRB a2 h35, rfl, rfl⟩)
    · exact absurd hk3 (by omega)
  · have hRB : fTl M = (false, fFail (fAv M) (nI 1)) := by rw [hR]; unfold fRl; rw [hlw, if_pos rfl]
    refine zA_aload_0 dX11_line_0 ?_
    refine zA_getI (v := kd) sh_87 fX11_231 dX11_line_1 rfl h33 ?_
    refine zA_iconst (nI 1) dX11_line_4 ic_1 ?_
    refine zA_icmp_ne 17 dX11_line_5 (by decide) (fun hk => ?_) (fun hk => ?_)
    · refine zA_aload_0 dX11_line_17 ?_
      refine zA_iconst (nI 1) dX11_line_18 ic_1 ?_
      refine zA_cVi (ct_rWrong g gi gl r (nI 1)) calX11_wrong stX11_wrong lX11_255 dX11_line_19 (by decide) (by simp [Value.category]) rfl (Nat.le_refl _) (Nat.le_refl _) sh_87 rfl (fun zz gi' gl' gr' ⟨hz, e1, e2, e3⟩ => ?_)
      rw [hz, e1, e2, e3]
      clear hz e1 e2 e3
      exact zB_zret rfl dX11_line_22 (by decide) (⟨zLnE_bad (N := fAv M) (zFrT_rf gi) hRB a2 h35, rfl, rfl⟩)
    · refine zA_aload_0 dX11_line_8 ?_
      refine zA_getI (v := wh) sh_87 fX11_241 dX11_line_9 rfl h34 ?_
      refine zA_bipush (nI 6) dX11_line_12 bc_6 ?_
      refine zA_icmp_le 23 dX11_line_14 (by decide) (fun hk2 => ?_) (fun hk2 => ?_)
      · exact absurd hno (fun q => q ⟨hk, fun z => absurd z (Int32.not_lt.mpr hk2)⟩)
      · refine zA_aload_0 dX11_line_17 ?_
        refine zA_iconst (nI 1) dX11_line_18 ic_1 ?_
        refine zA_cVi (ct_rWrong g gi gl r (nI 1)) calX11_wrong stX11_wrong lX11_255 dX11_line_19 (by decide) (by simp [Value.category]) rfl (Nat.le_refl _) (Nat.le_refl _) sh_87 rfl (fun zz gi' gl' gr' ⟨hz, e1, e2, e3⟩ => ?_)
        rw [hz, e1, e2, e3]
        clear hz e1 e2 e3
        exact zB_zret rfl dX11_line_22 (by decide) (⟨zLnE_bad (N := fAv M) (zFrT_rf gi) hRB a2 h35, rfl, rfl⟩)
