/-! ===== the readers: a bracket is closed, an expression ends ===== -/
theorem zf0 : ∀ p ∈ zKL, (fStay (nI p) (nI 0) ↔ p = 7) ∧ (rWt (nI (zKo p)) < nI 1 ↔ p = 7) := by decide +kernel
theorem zSt_0 : ∀ W : List (Nat × Nat), (∀ p ∈ W, zKk p.1) → zSt (nI 0) (nI 1) W
  | [], _ => trivial
  | p :: W, h => by
    have e := zf0 p.1 (zKL_of (h p List.mem_cons_self))
    exact ⟨e.1.trans e.2.symm, fun _ => zSt_0 W (fun q hq => h q (List.mem_cons_of_mem _ hq))⟩
theorem zOpn_no : ∀ A : List (Nat × Nat), (∀ p ∈ A, p.1 ≠ 7) → zOpn A = 0
  | [], _ => rfl
  | p :: A, h => by
    show zOpn A + (if p.1 = 7 then 1 else 0) = 0
    rw [zOpn_no A (fun q hq => h q (List.mem_cons_of_mem _ hq)), if_neg (h p List.mem_cons_self)]
/-- what is left when all up to the bracket is bound -/
theorem zLeft {W Wp W' : List (Nat × Nat)} (hW : ∀ p ∈ W, zKk p.1) (a1 : W = Wp ++ W') (a2 : ∀ p ∈ Wp, ¬ fStay (nI p.1) (nI 0)) (a3 : W' = [] ∨ ∃ p W2, W' = p :: W2 ∧ fStay (nI p.1) (nI 0)) : zOpn W' = zOpn W ∧ ((zOpn W = 0 ∧ W' = []) ∨ (∃ b W2, W' = (7, b) :: W2 ∧ zOpn W = zOpn W2 + 1)) := by
  have h7 : ∀ p ∈ W, (fStay (nI p.1) (nI 0) ↔ p.1 = 7) := fun p hp => (zf0 p.1 (zKL_of (hW p hp))).1
  have e : zOpn W = zOpn W' := by
    rw [a1, zOpn_ap, zOpn_no Wp (fun p hp z => a2 p hp ((h7 p (by rw [a1]; exact List.mem_append_left _ hp)).mpr z)), Nat.zero_add]
  refine ⟨e.symm, ?_⟩
  rcases a3 with h | ⟨p, W2, h, hs⟩
  · exact Or.inl ⟨by rw [e, h]; rfl, h⟩
  · have hp := (h7 p (by rw [a1, h]; exact List.mem_append_right _ List.mem_cons_self)).mp hs
    obtain ⟨k, b⟩ := p
    have hk : k = 7 := hp
    subst hk
    exact Or.inr ⟨b, W2, h, by rw [e, h]; rfl⟩
theorem zPS_close {A X : zm_I} {l s0 wr kn kb b : Nat} {W : List (Nat × Nat)} {S : List Nat} {dn : Nat → Nat} (hP : zPS A X l s0 wr kn kb ((7, b) :: W) S dn) :
    zPS (zs (zs A 42 4 (nI (zOpn W))) 42 3 (nI W.length)) (zs (zs X 87 51 (nI W.length)) 87 55 (nI (zOpn W))) l s0 wr kn kb W S dn := by
  obtain ⟨⟨a1, a2, a3, a4, a5⟩, ⟨b1, b2, b3⟩, ⟨c1, c2, c3, c4⟩, ⟨d1, d2, d3⟩, e1, e2, ⟨f1, f2⟩, g1, g2, g3, g4⟩ := hP
  have hop : zOpn ((7, b) :: W) = zOpn W + 1 := rfl
  have xq : ∀ a, a ≠ 87 → zs (zs X 87 51 (nI W.length)) 87 55 (nI (zOpn W)) a = X a := fun a h => by rw [zs_nq h, zs_nq h]
  have x87 : ∀ j, j ≠ 51 → j ≠ 55 → zs (zs X 87 51 (nI W.length)) 87 55 (nI (zOpn W)) 87 j = X 87 j := fun j h1 h2 => by rw [zs_nj h2, zs_nj h1]
  have m42 : ∀ j, j ≠ 3 → j ≠ 4 → zs (zs A 42 4 (nI (zOpn W))) 42 3 (nI W.length) 42 j = A 42 j := fun j h1 h2 => by rw [zs_nj h1, zs_nj h2]
  have mq : ∀ a, a ≠ 42 → zs (zs A 42 4 (nI (zOpn W))) 42 3 (nI W.length) a = A a := fun a h => by rw [zs_nq h, zs_nq h]
  refine ⟨⟨zs_eq _ _ _ _, by rw [zs_nj (by decide), zs_eq], zWM_cg W (fun j _ => by rw [mq 49 (by decide)]) a3.2, zWX_cg W (fun j _ => by rw [xq 117 (by decide), xq 118 (by decide)]; exact ⟨rfl, rfl⟩) a4.2.2, fun p hp => a5 p (List.mem_cons_of_mem _ hp)⟩, ⟨(m42 5 (by decide) (by decide)).trans b1, (x87 48 (by decide) (by decide)).trans b2, b3⟩, ⟨by rw [mq 43 (by decide)]; exact c1, (x87 47 (by decide) (by decide)).trans c2, c3, c4⟩, ⟨(x87 53 (by decide) (by decide)).trans d1, zHl_cg S (fun j _ => by rw [xq 119 (by decide)]) d2, zTD_cg (fun c _ => by rw [mq 44 (by decide), mq 45 (by decide)]; exact ⟨rfl, rfl⟩) (fun i _ _ => by rw [xq 110 (by decide), xq 111 (by decide), xq 112 (by decide), xq 113 (by decide)]; exact ⟨rfl, rfl, rfl, rfl⟩) d3⟩, e1, fun i hi => by rw [xq 114 (by decide)]; exact e2 i hi, ⟨fun p hp h7 => by rw [xq 110 (by decide)]; exact f1 p (List.mem_cons_of_mem _ hp) h7, f2.2⟩, ?_, ?_, zs_eq _ _ _ _, by rw [hop] at g4; omega⟩
  · have : ((7, b) :: W).length = W.length + 1 := rfl
    rw [this, hop] at g1
    omega
  · rw [zs_nj (by decide), zs_eq]
/-- the sign that the reference sees -/
def rSnV (kd wh : Int32) : Int32 := if kd = nI 1 then (if wh = nI 8 then nI 14 else if wh = nI 7 then nI 15 else -1) else if kd = nI 3 then (if wh < nI 12 then wh else -1) else -1
theorem rSn_at {X : zm_I} {kd wh : Int32} (h1 : X 87 33 = kd) (h2 : X 87 34 = wh) : rSn X = rSnV kd wh := by
  unfold rSn rSnV
  rw [h1, h2]
theorem zTe_sgn {kd wh kc vc : Int32} (h : zTe kd wh kc vc) : (∃ k, zTwo k ∧ kc = nI k ∧ rSnV kd wh = nI (rKd k) ∧ ¬ kd = nI 0) ∨ (rSnV kd wh = -1 ∧ ¬ fTwo kc ∧ (kc = nI 6 ↔ (kd = nI 3 ∧ wh = nI 41)) ∧ (kc = nI 5 ↔ (kd = nI 3 ∧ wh = nI 59))) := by
  rcases h with ⟨h1, h2⟩ | ⟨h1, h2⟩ | ⟨h1, h2, h3⟩ | ⟨h1, h2, h3⟩ | ⟨h1, k, hk, hw, h2⟩
  · subst h1 h2
    exact Or.inr ⟨by unfold rSnV; rw [if_neg (by decide), if_neg (by decide)], by decide, ⟨fun q => absurd q (by decide), fun q => absurd q.1 (by decide)⟩, ⟨fun q => absurd q (by decide), fun q => absurd q.1 (by decide)⟩⟩
  · subst h1 h2
    exact Or.inr ⟨by unfold rSnV; rw [if_neg (by decide), if_neg (by decide)], by decide, ⟨fun q => absurd q (by decide), fun q => absurd q.1 (by decide)⟩, ⟨fun q => absurd q (by decide), fun q => absurd q.1 (by decide)⟩⟩
  · subst h1 h2
    exact Or.inr ⟨by unfold rSnV; rw [if_neg (by decide), if_neg (by decide)], by decide, ⟨fun q => absurd q (by decide), fun q => absurd q.1 (by decide)⟩, ⟨fun q => absurd q (by decide), fun q => absurd q.1 (by decide)⟩⟩
  · subst h1
    have e3 : ∀ v, rSnV (nI 3) v = if v < nI 12 then v else -1 := fun v => by unfold rSnV; rw [if_neg (by decide), if_pos rfl]
    rcases h3 with ⟨w, w1, w2, w3, w4⟩ | ⟨w3, w4⟩ | ⟨w3, w4⟩ | ⟨w3, w4⟩ | ⟨w3, w4⟩
    · refine Or.inl ⟨w + 10, ?_, w4, ?_, by decide⟩
      · rcases (show w = 1 ∨ w = 2 ∨ w = 3 ∨ w = 4 ∨ w = 5 ∨ w = 6 ∨ w = 7 ∨ w = 8 ∨ w = 9 ∨ w = 10 ∨ w = 11 by omega) with rfl | rfl | rfl | rfl | rfl | rfl | rfl | rfl | rfl | rfl | rfl <;> decide
      · rw [e3, w3, if_pos ((nI_ltI (by omega) (by omega)).mpr (by omega))]
        rcases (show w = 1 ∨ w = 2 ∨ w = 3 ∨ w = 4 ∨ w = 5 ∨ w = 6 ∨ w = 7 ∨ w = 8 ∨ w = 9 ∨ w = 10 ∨ w = 11 by omega) with rfl | rfl | rfl | rfl | rfl | rfl | rfl | rfl | rfl | rfl | rfl <;> decide
    · subst w3 w4
      exact Or.inr ⟨by rw [e3]; decide, by decide, by decide, by decide⟩
    · subst w3 w4
      exact Or.inr ⟨by rw [e3]; decide, by decide, by decide, by decide⟩
    · subst w3 w4
      exact Or.inr ⟨by rw [e3]; decide, by decide, by decide, by decide⟩
    · exact absurd w3 h2
  · subst h1
    have e1 : ∀ v, rSnV (nI 1) v = if v = nI 8 then nI 14 else if v = nI 7 then nI 15 else -1 := fun v => if_pos rfl
    rcases h2 with ⟨k1, k2, k3⟩ | ⟨k1, k2, k3⟩ | ⟨k1, k2, k3⟩ | ⟨k1, k2, k3⟩
    · refine Or.inr ⟨by rw [e1, hw, if_neg (nI_q (by omega) (by omega) (by omega)), if_neg (nI_q (by omega) (by omega) (by omega))], by rw [k3]; decide, ⟨fun q => by rw [k3] at q; exact absurd q (by decide), fun q => absurd q.1 (by decide)⟩, ⟨fun q => by rw [k3] at q; exact absurd q (by decide), fun q => absurd q.1 (by decide)⟩⟩
    · rcases (show k = 7 ∨ k = 8 ∨ k = 9 by omega) with rfl | rfl | rfl
      · exact Or.inl ⟨8, by decide, k3, by rw [e1, hw]; decide, by decide⟩
      · exact Or.inl ⟨9, by decide, k3, by rw [e1, hw]; decide, by decide⟩
      · exact Or.inr ⟨by rw [e1, hw]; decide, by rw [k3]; decide, ⟨fun q => by rw [k3] at q; exact absurd q (by decide), fun q => absurd q.1 (by decide)⟩, ⟨fun q => by rw [k3] at q; exact absurd q (by decide), fun q => absurd q.1 (by decide)⟩⟩
    · exact Or.inr ⟨by rw [e1, hw, k1]; decide, by rw [k2]; decide, ⟨fun q => by rw [k2] at q; exact absurd q (by decide), fun q => absurd q.1 (by decide)⟩, ⟨fun q => by rw [k2] at q; exact absurd q (by decide), fun q => absurd q.1 (by decide)⟩⟩
    · exact Or.inr ⟨by rw [e1, hw, if_neg (nI_q (by omega) (by omega) (by omega)), if_neg (nI_q (by omega) (by omega) (by omega))], by rw [k2]; decide, ⟨fun q => by rw [k2] at q; exact absurd q (by decide), fun q => absurd q.1 (by decide)⟩, ⟨fun q => by rw [k2] at q; exact absurd q (by decide), fun q => absurd q.1 (by decide)⟩⟩
