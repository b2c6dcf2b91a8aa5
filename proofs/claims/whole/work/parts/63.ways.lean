/-! ===== ways: tables of fewest minutes ===== -/
def zWk (E : Nat → Nat → Nat → Prop) : Nat → Nat → Nat → Nat → Prop
  | 0, a, b, n => a = b ∧ n = 0
  | k + 1, a, b, n => ∃ c l n', zWk E k a c n' ∧ E c b l ∧ n = n' + l
def zWay (E : Nat → Nat → Nat → Prop) (a b n : Nat) : Prop := ∃ k, zWk E k a b n
theorem zWay_rf (E : Nat → Nat → Nat → Prop) (a : Nat) : zWay E a a 0 := ⟨0, rfl, rfl⟩
theorem zWay_st {E : Nat → Nat → Nat → Prop} {a b c n l : Nat} (h : zWay E a c n) (e : E c b l) : zWay E a b (n + l) := by
  obtain ⟨k, h⟩ := h
  exact ⟨k + 1, c, l, n, h, e, rfl⟩
theorem zWay_tr {E : Nat → Nat → Nat → Prop} {a b n : Nat} (h : zWay E a b n) : ∀ (k c m : Nat), zWk E k b c m → zWay E a c (n + m)
  | 0, c, m, hh => by
    obtain ⟨e, z⟩ := hh
    subst e z
    exact h
  | k + 1, c, m, hh => by
    obtain ⟨d, l, m', hk, he, e⟩ := hh
    subst e
    rw [← Nat.add_assoc]
    exact zWay_st (zWay_tr h k d m' hk) he
theorem zWk_mono {E E' : Nat → Nat → Nat → Prop} (hE : ∀ a b l, E a b l → E' a b l) {a : Nat} : ∀ (k b n : Nat), zWk E k a b n → zWk E' k a b n
  | 0, _, _, h => h
  | k + 1, _, _, h => by
    obtain ⟨d, l, m', hk, he, e⟩ := h
    exact ⟨d, l, m', zWk_mono hE k d m' hk, hE _ _ _ he, e⟩
theorem zWay_mono {E E' : Nat → Nat → Nat → Prop} (hE : ∀ a b l, E a b l → E' a b l) {a b n : Nat} (h : zWay E a b n) : zWay E' a b n := by
  obtain ⟨k, h⟩ := h
  exact ⟨k, zWk_mono hE k b n h⟩
/-- the table of fewest minutes; 1000000 where there is no way -/
def zTab (E : Nat → Nat → Nat → Prop) (T : Nat → Nat → Nat) : Prop :=
  (∀ a b, a < 8 → b < 8 → T a b ≤ 1000000) ∧ (∀ a, a < 8 → T a a = 0) ∧ (∀ f x y l, f < 8 → E x y l → T f y ≤ T f x + l) ∧ ∀ a b, a < 8 → b < 8 → T a b < 1000000 → zWay E a b (T a b)
theorem zLow {E : Nat → Nat → Nat → Prop} {T : Nat → Nat → Nat} {a : Nat} (h0 : T a a = 0) (h1 : ∀ x y l, E x y l → T a y ≤ T a x + l) : ∀ (k b n : Nat), zWk E k a b n → T a b ≤ n
  | 0, b, n, h => by
    obtain ⟨e, z⟩ := h
    subst e z
    omega
  | k + 1, b, n, h => by
    obtain ⟨d, l, m', hk, he, e⟩ := h
    have h2 := zLow h0 h1 k d m' hk
    have h3 := h1 d b l he
    omega
theorem zTab_le {E : Nat → Nat → Nat → Prop} {T T' : Nat → Nat → Nat} (h : zTab E T) (h' : zTab E T') {a b : Nat} (ha : a < 8) (hb : b < 8) : T a b ≤ T' a b := by
  by_cases q : T' a b < 1000000
  · obtain ⟨k, hk⟩ := h'.2.2.2 a b ha hb q
    exact zLow (h.2.1 a ha) (fun x y l => h.2.2.1 a x y l ha) k b _ hk
  · have := h.1 a b ha hb
    omega
theorem zTab_eq {E : Nat → Nat → Nat → Prop} {T T' : Nat → Nat → Nat} (h : zTab E T) (h' : zTab E T') {a b : Nat} (ha : a < 8) (hb : b < 8) : T a b = T' a b :=
  Nat.le_antisymm (zTab_le h h' ha hb) (zTab_le h' h ha hb)
theorem zTab_cong {E E' : Nat → Nat → Nat → Prop} {T : Nat → Nat → Nat} (hE : ∀ a b l, E a b l ↔ E' a b l) (h : zTab E T) : zTab E' T :=
  ⟨h.1, h.2.1, fun f x y l hf he => h.2.2.1 f x y l hf ((hE x y l).mpr he), fun a b ha hb q => zWay_mono (fun x y l => (hE x y l).mp) (h.2.2.2 a b ha hb q)⟩
def zMore (E : Nat → Nat → Nat → Prop) (a b m : Nat) : Nat → Nat → Nat → Prop := fun x y l => E x y l ∨ (x = a ∧ y = b ∧ l = m) ∨ (x = b ∧ y = a ∧ l = m)
def zFm (T : Nat → Nat → Nat) (a b m f t : Nat) : Nat := min (T f t) (min (T f a + T b t) (T f b + T a t) + m)
theorem zTab_add {E : Nat → Nat → Nat → Prop} {T C : Nat → Nat → Nat} {a b m : Nat} (h : zTab E T) (h8 : ∀ x y l, E x y l → x < 8 ∧ y < 8) (ha : a < 8) (hb : b < 8) (hle : ∀ f t, f < 8 → t < 8 → C f t ≤ zFm T a b m f t) (hw : ∀ f t, f < 8 → t < 8 → C f t < 1000000 → zWay (zMore E a b m) f t (C f t)) : zTab (zMore E a b m) C := by
  obtain ⟨t1, t2, t3, t4⟩ := h
  have hF0 : ∀ f, f < 8 → zFm T a b m f f = 0 := fun f hf => by
    have := t2 f hf
    unfold zFm
    omega
  have hF1 : ∀ f, f < 8 → ∀ x y l, zMore E a b m x y l → zFm T a b m f y ≤ zFm T a b m f x + l := fun f hf x y l he => by
    have taa := t2 a ha
    have tbb := t2 b hb
    rcases he with he | ⟨e1, e2, e3⟩ | ⟨e1, e2, e3⟩
    · have q1 := t3 f x y l hf he
      have q2 := t3 a x y l ha he
      have q3 := t3 b x y l hb he
      unfold zFm
      omega
    · subst e1 e2 e3
      unfold zFm
      omega
    · subst e1 e2 e3
      unfold zFm
      omega
  have hC : ∀ f t, f < 8 → t < 8 → C f t = zFm T a b m f t := fun f t hf ht => by
    refine Nat.le_antisymm (hle f t hf ht) ?_
    by_cases q : C f t < 1000000
    · obtain ⟨k, hk⟩ := hw f t hf ht q
      exact zLow (T := zFm T a b m) (hF0 f hf) (fun x y l => hF1 f hf x y l) k t _ hk
    · have := t1 f t hf ht
      unfold zFm
      omega
  refine ⟨fun f t hf ht => ?_, fun f hf => by rw [hC f f hf hf]; exact hF0 f hf, fun f x y l hf he => ?_, hw⟩
  · have := t1 f t hf ht
    have := hle f t hf ht
    unfold zFm at this
    omega
  · have h8' : x < 8 ∧ y < 8 := by
      rcases he with he | ⟨e1, e2, e3⟩ | ⟨e1, e2, e3⟩
      · exact h8 x y l he
      · rw [e1, e2]; exact ⟨ha, hb⟩
      · rw [e1, e2]; exact ⟨hb, ha⟩
    rw [hC f y hf h8'.2, hC f x hf h8'.1]
    exact hF1 f hf x y l he
/-- a flat table of small numbers -/
def zPt (t : Nat → Int32) : Prop := ∀ i, i < 64 → t i = nI (zi (t i)) ∧ zi (t i) ≤ 1000000
def zT8 (t : Nat → Int32) : Nat → Nat → Nat := fun f x => zi (t (f * 8 + x))
def zShI (E : Nat → Nat → Nat → Prop) (T : Nat → Nat → Nat) (t : Nat → Int32) : Prop :=
  zPt t ∧ (∀ f x, f < 8 → x < 8 → zT8 t f x ≤ T f x) ∧ ∀ f x, f < 8 → x < 8 → zT8 t f x < 1000000 → zWay E f x (zT8 t f x)
theorem zmin_N {a b : Nat} (ha : a < 2 ^ 31) (hb : b < 2 ^ 31) : zmin (nI a) (nI b) = nI (min a b) := by
  unfold zmin
  by_cases h : b < a
  · rw [if_pos ((nI_ltI hb ha).mpr h), Nat.min_eq_right (Nat.le_of_lt h)]
  · rw [if_neg (fun q => h ((nI_ltI hb ha).mp q)), Nat.min_eq_left (by omega)]
theorem upd_at (t : Nat → Int32) (j : Nat) (v : Int32) (i : Nat) : upd t j v i = if i = j then v else t i := by
  by_cases h : i = j
  · subst h; rw [pk_us, if_pos rfl]
  · rw [pk_un h, if_neg h]
theorem fShS_ok {E : Nat → Nat → Nat → Prop} {T : Nat → Nat → Nat} {a b m : Nat} {t : Nat → Int32} (ha : a < 8) (hb : b < 8) (hm : m ≤ 600) (hi : zShI (zMore E a b m) T t) {f x : Nat} (hf : f < 8) (hx : x < 8) :
    zShI (zMore E a b m) T (fShS a b (nI m) t f x) ∧ zT8 (fShS a b (nI m) t f x) f x ≤ zFm (zT8 t) a b m f x ∧ ∀ i, zi (fShS a b (nI m) t f x i) ≤ zi (t i) := by
  obtain ⟨h1, h2, h3⟩ := hi
  obtain ⟨p1, q1⟩ := h1 (f * 8 + x) (by omega)
  obtain ⟨p2, q2⟩ := h1 (f * 8 + a) (by omega)
  obtain ⟨p3, q3⟩ := h1 (b * 8 + x) (by omega)
  obtain ⟨p4, q4⟩ := h1 (f * 8 + b) (by omega)
  obtain ⟨p5, q5⟩ := h1 (a * 8 + x) (by omega)
  have eb : zmin (t (f * 8 + a) + t (b * 8 + x)) (t (f * 8 + b) + t (a * 8 + x)) + nI m = nI (min (zT8 t f a + zT8 t b x) (zT8 t f b + zT8 t a x) + m) := by
    unfold zT8
    rw [p2, p3, p4, p5, nI_add, nI_add, zmin_N (by omega) (by omega), nI_add, zi_nI (by omega), zi_nI (by omega), zi_nI (by omega), zi_nI (by omega)]
  have hba : zT8 t f a + zT8 t b x ≤ 2000000 := by unfold zT8; omega
  have ec : t (f * 8 + x) ≤ zmin (t (f * 8 + a) + t (b * 8 + x)) (t (f * 8 + b) + t (a * 8 + x)) + nI m ↔ zT8 t f x ≤ min (zT8 t f a + zT8 t b x) (zT8 t f b + zT8 t a x) + m := by
    rw [eb, p1]
    exact nI_leI (by omega) (by omega)
  unfold fShS
  by_cases hc : zT8 t f x ≤ min (zT8 t f a + zT8 t b x) (zT8 t f b + zT8 t a x) + m
  · rw [if_pos (ec.mpr hc)]
    exact ⟨⟨h1, h2, h3⟩, by unfold zFm; omega, fun i => Nat.le_refl _⟩
  · rw [if_neg (fun q => hc (ec.mp q)), eb]
    have hlt : min (zT8 t f a + zT8 t b x) (zT8 t f b + zT8 t a x) + m < zT8 t f x := by omega
    have q1' : zT8 t f x ≤ 1000000 := q1
    generalize hv : min (zT8 t f a + zT8 t b x) (zT8 t f b + zT8 t a x) + m = v at hlt
    have hz : zi (nI v) = v := zi_nI (by omega)
    have hw : zWay (zMore E a b m) f x v := by
      by_cases hk : zT8 t f a + zT8 t b x ≤ zT8 t f b + zT8 t a x
      · have e : v = zT8 t f a + m + zT8 t b x := by omega
        rw [e]
        obtain ⟨k, hk⟩ := h3 b x hb hx (by omega)
        exact zWay_tr (zWay_st (h3 f a hf ha (by omega)) (Or.inr (Or.inl ⟨rfl, rfl, rfl⟩))) k x _ hk
      · have e : v = zT8 t f b + m + zT8 t a x := by omega
        rw [e]
        obtain ⟨k, hk⟩ := h3 a x ha hx (by omega)
        exact zWay_tr (zWay_st (h3 f b hf hb (by omega)) (Or.inr (Or.inr ⟨rfl, rfl, rfl⟩))) k x _ hk
    have hat : ∀ i, zi (upd t (f * 8 + x) (nI v) i) = if i = f * 8 + x then v else zi (t i) := fun i => by
      rw [upd_at]
      split
      · exact hz
      · rfl
    refine ⟨⟨fun i hi => ?_, fun f' x' hf' hx' => ?_, fun f' x' hf' hx' => ?_⟩, ?_, fun i => ?_⟩
    · rw [hat, upd_at]
      split
      · exact ⟨rfl, by omega⟩
      · exact h1 i hi
    · unfold zT8
      rw [hat]
      split
      · next e =>
        have e1 : f' = f := by omega
        have e2 : x' = x := by omega
        subst e1 e2
        have := h2 f' x' hf hx
        omega
      · exact h2 f' x' hf' hx'
    · unfold zT8
      rw [hat]
      split
      · next e =>
        have e1 : f' = f := by omega
        have e2 : x' = x := by omega
        subst e1 e2
        intro _
        exact hw
      · exact h3 f' x' hf' hx'
    · show zi (upd t (f * 8 + x) (nI v) (f * 8 + x)) ≤ _
      rw [hat, if_pos rfl]
      unfold zFm
      omega
    · rw [hat]
      split
      · next e =>
        subst e
        have : zT8 t f x = zi (t (f * 8 + x)) := rfl
        omega
      · exact Nat.le_refl _
theorem zFm_mono {T T' : Nat → Nat → Nat} {a b m : Nat} (ha : a < 8) (hb : b < 8) (h : ∀ f x, f < 8 → x < 8 → T' f x ≤ T f x) {f x : Nat} (hf : f < 8) (hx : x < 8) : zFm T' a b m f x ≤ zFm T a b m f x := by
  have h1 := h f x hf hx
  have h2 := h f a hf ha
  have h3 := h b x hb hx
  have h4 := h f b hf hb
  have h5 := h a x ha hx
  unfold zFm
  omega
theorem fShI_ok {E : Nat → Nat → Nat → Prop} {T : Nat → Nat → Nat} {a b m : Nat} {t : Nat → Int32} (ha : a < 8) (hb : b < 8) (hm : m ≤ 600) (hi : zShI (zMore E a b m) T t) {f : Nat} (hf : f < 8) : ∀ k, k ≤ 8 →
    zShI (zMore E a b m) T (fShI a b (nI m) f k t) ∧ (∀ x, x < k → zT8 (fShI a b (nI m) f k t) f x ≤ zFm T a b m f x) ∧ ∀ i, zi (fShI a b (nI m) f k t i) ≤ zi (t i)
  | 0, _ => ⟨hi, fun x hx => absurd hx (Nat.not_lt_zero _), fun _ => Nat.le_refl _⟩
  | k + 1, hk => by
    obtain ⟨j1, j2, j3⟩ := fShI_ok ha hb hm hi hf k (by omega)
    obtain ⟨s1, s2, s3⟩ := fShS_ok ha hb hm j1 hf (show k < 8 by omega)
    refine ⟨s1, fun x hx => ?_, fun i => Nat.le_trans (s3 i) (j3 i)⟩
    by_cases e : x = k
    · subst e
      exact Nat.le_trans s2 (zFm_mono ha hb j1.2.1 hf (by omega))
    · exact Nat.le_trans (s3 _) (j2 x (by omega))
theorem fShO_ok {E : Nat → Nat → Nat → Prop} {T : Nat → Nat → Nat} {a b m : Nat} {t : Nat → Int32} (ha : a < 8) (hb : b < 8) (hm : m ≤ 600) (hi : zShI (zMore E a b m) T t) : ∀ k, k ≤ 8 →
    zShI (zMore E a b m) T (fShO a b (nI m) k t) ∧ (∀ f x, f < k → x < 8 → zT8 (fShO a b (nI m) k t) f x ≤ zFm T a b m f x)
  | 0, _ => ⟨hi, fun f x hf => absurd hf (Nat.not_lt_zero _)⟩
  | k + 1, hk => by
    obtain ⟨j1, j2⟩ := fShO_ok ha hb hm hi k (by omega)
    obtain ⟨s1, s2, s3⟩ := fShI_ok ha hb hm j1 (show k < 8 by omega) 8 (by omega)
    refine ⟨s1, fun f x hf hx => ?_⟩
    by_cases e : f = k
    · subst e
      exact s2 x hx
    · exact Nat.le_trans (s3 _) (j2 f x (by omega) hx)
/-- one new road: the class's table stays the table of fewest minutes -/
theorem fShO_tab {E : Nat → Nat → Nat → Prop} {a b m : Nat} {t : Nat → Int32} (ha : a < 8) (hb : b < 8) (hm : m ≤ 600) (h8 : ∀ x y l, E x y l → x < 8 ∧ y < 8) (hp : zPt t) (ht : zTab E (zT8 t)) : zPt (fShO a b (nI m) 8 t) ∧ zTab (zMore E a b m) (zT8 (fShO a b (nI m) 8 t)) := by
  obtain ⟨h1, h2⟩ := fShO_ok (E := E) (T := zT8 t) ha hb hm ⟨hp, fun _ _ _ _ => Nat.le_refl _, fun f x hf hx q => zWay_mono (fun _ _ _ => Or.inl) (ht.2.2.2 f x hf hx q)⟩ 8 (Nat.le_refl _)
  exact ⟨h1.1, zTab_add ht h8 ha hb (fun f x hf hx => h2 f x hf hx) h1.2.2⟩
