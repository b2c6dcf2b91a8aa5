/-! the reference's trees -/
def rNm (X : zm_I) (k : Nat) : Int32 := match k with
  | 0 => X 89 (8 * zi (X 87 61)) | 1 => X 89 (8 * zi (X 87 61) + 1) | 2 => X 89 (8 * zi (X 87 61) + 2) | 3 => X 89 (8 * zi (X 87 61) + 3) | 4 => X 89 (8 * zi (X 87 61) + 4 + zi (X 97 (7 * zi (X 87 62))))
  | 5 => X 97 (7 * zi (X 87 62)) | 6 => X 97 (7 * zi (X 87 62) + 1) | 7 => X 97 (7 * zi (X 87 62) + 2) | 8 => X 87 63 | 9 => X 87 64 | _ => X 87 65
def rAt (X : zm_I) : Prop := zx (X 87 61) 8 ∧ zx (X 87 62) 4 ∧ zx (X 97 (7 * zi (X 87 62))) 4
theorem ct_rName (g : zm_G) (gi : zm_I) (gl : zm_J) (r : Nat) (hA : rAt gi) {k : Nat} (hk : k < 11)  : zC_i g yX11_nameValue mX11_nameValue 0 [.ref 87, .int (nI k)] zSH gi gl (zRT r) (fun z gi' gl' gr' => z = rNm gi k ∧ gi' = gi ∧ gl' = gl ∧ gr' = zRT r) := by
  obtain ⟨⟨a1, a2⟩, ⟨a3, a4⟩, a5, a6⟩ := hA
  refine zC_i_of [some (.ref 87), some (.int (nI k))] (by decide) rfl rfl (Nat.le_of_ble_eq_true rfl) (fun x => ?_)
  refine zA_iload_1 dX11_nameValue_0 ?_
  rcases (show k = 0 ∨ k = 1 ∨ k = 2 ∨ k = 3 ∨ k = 4 ∨ k = 5 ∨ k = 6 ∨ k = 7 ∨ k = 8 ∨ k = 9 ∨ k = 10 by omega) with rfl | rfl | rfl | rfl | rfl | rfl | rfl | rfl | rfl | rfl | rfl
  · refine zA_tableIn 56 dX11_nameValue_1 (by decide) (by decide) (off := 55) (by decide) (by decide) ?_
    refine zA_aload_0 dX11_nameValue_56 ?_
    refine zA_getR sh_87 fX11_13 dX11_nameValue_57 rfl (rt_87_4 _) ?_
    refine zA_bipush (nI 8) dX11_nameValue_60 bc_8 ?_
    refine zA_aload_0 dX11_nameValue_62 ?_
    refine zA_getI (v := (nI (zi (gi 87 61)))) sh_87 fX11_349 dX11_nameValue_63 rfl a1 ?_
    refine zA_imulN dX11_nameValue_66 ?_
    refine zA_iload_1 dX11_nameValue_67 ?_
    refine zA_iaddN dX11_nameValue_68 ?_
    refine zA_iald (v := (gi 89 ((8 * (zi (gi 87 61))) + 0))) ((8 * (zi (gi 87 61))) + 0) sh_89 dX11_nameValue_69 rfl (by omega) (by decide) rfl ?_
    exact zB_iret rfl dX11_nameValue_70 (⟨rfl, rfl, rfl, rfl⟩)
  · refine zA_tableIn 56 dX11_nameValue_1 (by decide) (by decide) (off := 55) (by decide) (by decide) ?_
    refine zA_aload_0 dX11_nameValue_56 ?_
    refine zA_getR sh_87 fX11_13 dX11_nameValue_57 rfl (rt_87_4 _) ?_
    refine zA_bipush (nI 8) dX11_nameValue_60 bc_8 ?_
    refine zA_aload_0 dX11_nameValue_62 ?_
    refine zA_getI (v := (nI (zi (gi 87 61)))) sh_87 fX11_349 dX11_nameValue_63 rfl a1 ?_
    refine zA_imulN dX11_nameValue_66 ?_
    refine zA_iload_1 dX11_nameValue_67 ?_
    refine zA_iaddN dX11_nameValue_68 ?_
    refine zA_iald (v := (gi 89 ((8 * (zi (gi 87 61))) + 1))) ((8 * (zi (gi 87 61))) + 1) sh_89 dX11_nameValue_69 rfl (by omega) (by decide) rfl ?_
    exact zB_iret rfl dX11_nameValue_70 (⟨rfl, rfl, rfl, rfl⟩)
  · refine zA_tableIn 56 dX11_nameValue_1 (by decide) (by decide) (off := 55) (by decide) (by decide) ?_
    refine zA_aload_0 dX11_nameValue_56 ?_
    refine zA_getR sh_87 fX11_13 dX11_nameValue_57 rfl (rt_87_4 _) ?_
    refine zA_bipush (nI 8) dX11_nameValue_60 bc_8 ?_
    refine zA_aload_0 dX11_nameValue_62 ?_
    refine zA_getI (v := (nI (zi (gi 87 61)))) sh_87 fX11_349 dX11_nameValue_63 rfl a1 ?_
    refine zA_imulN dX11_nameValue_66 ?_
    refine zA_iload_1 dX11_nameValue_67 ?_
    refine zA_iaddN dX11_nameValue_68 ?_
    refine zA_iald (v := (gi 89 ((8 * (zi (gi 87 61))) + 2))) ((8 * (zi (gi 87 61))) + 2) sh_89 dX11_nameValue_69 rfl (by omega) (by decide) rfl ?_
    exact zB_iret rfl dX11_nameValue_70 (⟨rfl, rfl, rfl, rfl⟩)
  · refine zA_tableIn 56 dX11_nameValue_1 (by decide) (by decide) (off := 55) (by decide) (by decide) ?_
    refine zA_aload_0 dX11_nameValue_56 ?_
    refine zA_getR sh_87 fX11_13 dX11_nameValue_57 rfl (rt_87_4 _) ?_
    refine zA_bipush (nI 8) dX11_nameValue_60 bc_8 ?_
    refine zA_aload_0 dX11_nameValue_62 ?_
    refine zA_getI (v := (nI (zi (gi 87 61)))) sh_87 fX11_349 dX11_nameValue_63 rfl a1 ?_
    refine zA_imulN dX11_nameValue_66 ?_
    refine zA_iload_1 dX11_nameValue_67 ?_
    refine zA_iaddN dX11_nameValue_68 ?_
    refine zA_iald (v := (gi 89 ((8 * (zi (gi 87 61))) + 3))) ((8 * (zi (gi 87 61))) + 3) sh_89 dX11_nameValue_69 rfl (by omega) (by decide) rfl ?_
    exact zB_iret rfl dX11_nameValue_70 (⟨rfl, rfl, rfl, rfl⟩)
  · refine zA_tableIn 71 dX11_nameValue_1 (by decide) (by decide) (off := 70) (by decide) (by decide) ?_
    refine zA_aload_0 dX11_nameValue_71 ?_
    refine zA_getR sh_87 fX11_13 dX11_nameValue_72 rfl (rt_87_4 _) ?_
    refine zA_bipush (nI 8) dX11_nameValue_75 bc_8 ?_
    refine zA_aload_0 dX11_nameValue_77 ?_
    refine zA_getI (v := (nI (zi (gi 87 61)))) sh_87 fX11_349 dX11_nameValue_78 rfl a1 ?_
    refine zA_imulN dX11_nameValue_81 ?_
    refine zA_iconst (nI 4) dX11_nameValue_82 ic_4 ?_
    refine zA_iaddN dX11_nameValue_83 ?_
    refine zA_aload_0 dX11_nameValue_84 ?_
    refine zA_getR sh_87 fX11_37 dX11_nameValue_85 rfl (rt_87_16 _) ?_
    refine zA_bipush (nI 7) dX11_nameValue_88 bc_7 ?_
    refine zA_aload_0 dX11_nameValue_90 ?_
    refine zA_getI (v := (nI (zi (gi 87 62)))) sh_87 fX11_352 dX11_nameValue_91 rfl a3 ?_
    refine zA_imulN dX11_nameValue_94 ?_
    refine zA_iald (v := (nI (zi (gi 97 (7 * zi (gi 87 62)))))) (7 * (zi (gi 87 62))) sh_97 dX11_nameValue_95 rfl (by omega) (by decide) a5 ?_
    refine zA_iaddN dX11_nameValue_96 ?_
    refine zA_iald (v := (gi 89 (((8 * (zi (gi 87 61))) + 4) + (zi (gi 97 (7 * zi (gi 87 62))))))) (((8 * (zi (gi 87 61))) + 4) + (zi (gi 97 (7 * zi (gi 87 62))))) sh_89 dX11_nameValue_97 rfl (by omega) (by decide) rfl ?_
    exact zB_iret rfl dX11_nameValue_98 (⟨rfl, rfl, rfl, rfl⟩)
  · refine zA_tableIn 99 dX11_nameValue_1 (by decide) (by decide) (off := 98) (by decide) (by decide) ?_
    refine zA_aload_0 dX11_nameValue_99 ?_
    refine zA_getR sh_87 fX11_37 dX11_nameValue_100 rfl (rt_87_16 _) ?_
    refine zA_bipush (nI 7) dX11_nameValue_103 bc_7 ?_
    refine zA_aload_0 dX11_nameValue_105 ?_
    refine zA_getI (v := (nI (zi (gi 87 62)))) sh_87 fX11_352 dX11_nameValue_106 rfl a3 ?_
    refine zA_imulN dX11_nameValue_109 ?_
    refine zA_iload_1 dX11_nameValue_110 ?_
    refine zA_iaddN dX11_nameValue_111 ?_
    refine zA_iconst (nI 5) dX11_nameValue_112 ic_5 ?_
    refine zA_isubN dX11_nameValue_113 (by omega) ?_
    refine zA_iald (v := (gi 97 (7 * zi (gi 87 62)))) (7 * zi (gi 87 62)) sh_97 dX11_nameValue_114 (by rw [show 7 * zi (gi 87 62) + 5 - 5 = 7 * zi (gi 87 62) by omega]) (by omega) (by decide) rfl ?_
    exact zB_iret rfl dX11_nameValue_115 (⟨rfl, rfl, rfl, rfl⟩)
  · refine zA_tableIn 99 dX11_nameValue_1 (by decide) (by decide) (off := 98) (by decide) (by decide) ?_
    refine zA_aload_0 dX11_nameValue_99 ?_
    refine zA_getR sh_87 fX11_37 dX11_nameValue_100 rfl (rt_87_16 _) ?_
    refine zA_bipush (nI 7) dX11_nameValue_103 bc_7 ?_
    refine zA_aload_0 dX11_nameValue_105 ?_
    refine zA_getI (v := (nI (zi (gi 87 62)))) sh_87 fX11_352 dX11_nameValue_106 rfl a3 ?_
    refine zA_imulN dX11_nameValue_109 ?_
    refine zA_iload_1 dX11_nameValue_110 ?_
    refine zA_iaddN dX11_nameValue_111 ?_
    refine zA_iconst (nI 5) dX11_nameValue_112 ic_5 ?_
    refine zA_isubN dX11_nameValue_113 (by omega) ?_
    refine zA_iald (v := (gi 97 (7 * zi (gi 87 62) + 1))) (7 * zi (gi 87 62) + 1) sh_97 dX11_nameValue_114 (by rw [show 7 * zi (gi 87 62) + 6 - 5 = 7 * zi (gi 87 62) + 1 by omega]) (by omega) (by decide) rfl ?_
    exact zB_iret rfl dX11_nameValue_115 (⟨rfl, rfl, rfl, rfl⟩)
  · refine zA_tableIn 99 dX11_nameValue_1 (by decide) (by decide) (off := 98) (by decide) (by decide) ?_
    refine zA_aload_0 dX11_nameValue_99 ?_
    refine zA_getR sh_87 fX11_37 dX11_nameValue_100 rfl (rt_87_16 _) ?_
    refine zA_bipush (nI 7) dX11_nameValue_103 bc_7 ?_
    refine zA_aload_0 dX11_nameValue_105 ?_
    refine zA_getI (v := (nI (zi (gi 87 62)))) sh_87 fX11_352 dX11_nameValue_106 rfl a3 ?_
    refine zA_imulN dX11_nameValue_109 ?_
    refine zA_iload_1 dX11_nameValue_110 ?_
    refine zA_iaddN dX11_nameValue_111 ?_
    refine zA_iconst (nI 5) dX11_nameValue_112 ic_5 ?_
    refine zA_isubN dX11_nameValue_113 (by omega) ?_
    refine zA_iald (v := (gi 97 (7 * zi (gi 87 62) + 2))) (7 * zi (gi 87 62) + 2) sh_97 dX11_nameValue_114 (by rw [show 7 * zi (gi 87 62) + 7 - 5 = 7 * zi (gi 87 62) + 2 by omega]) (by omega) (by decide) rfl ?_
    exact zB_iret rfl dX11_nameValue_115 (⟨rfl, rfl, rfl, rfl⟩)
  · refine zA_tableIn 116 dX11_nameValue_1 (by decide) (by decide) (off := 115) (by decide) (by decide) ?_
    refine zA_aload_0 dX11_nameValue_116 ?_
    refine zA_getI (v := (gi 87 63)) sh_87 fX11_355 dX11_nameValue_117 rfl rfl ?_
    exact zB_iret rfl dX11_nameValue_120 (⟨rfl, rfl, rfl, rfl⟩)
  · refine zA_tableIn 121 dX11_nameValue_1 (by decide) (by decide) (off := 120) (by decide) (by decide) ?_
    refine zA_aload_0 dX11_nameValue_121 ?_
    refine zA_getI (v := (gi 87 64)) sh_87 fX11_358 dX11_nameValue_122 rfl rfl ?_
    exact zB_iret rfl dX11_nameValue_125 (⟨rfl, rfl, rfl, rfl⟩)
  · refine zA_tableOut 126 dX11_nameValue_1 (by decide) (by decide) ?_
    refine zA_aload_0 dX11_nameValue_126 ?_
    refine zA_getI (v := (gi 87 65)) sh_87 fX11_361 dX11_nameValue_127 rfl rfl ?_
    exact zB_iret rfl dX11_nameValue_130 (⟨rfl, rfl, rfl, rfl⟩)
abbrev zTwo (k : Nat) : Prop := k = 8 ∨ k = 9 ∨ k = 11 ∨ k = 12 ∨ k = 13 ∨ k = 14 ∨ k = 15 ∨ k = 16 ∨ k = 17 ∨ k = 18 ∨ k = 19 ∨ k = 20 ∨ k = 21
/-- a knot of the class, and the reference's: which knots wait for a use, ahead and behind -/
def zNd (C X : zm_I) (l c a : Nat) (S S' : List Nat) : Prop :=
  a < 64 ∧ ¬ a ∈ S ∧ X 110 a = nI (rKd (zi (C 37 c))) ∧
  ((C 37 c = nI 3 ∧ X 113 a = C 38 c ∧ S' = a :: S) ∨
   (C 37 c = nI 4 ∧ X 113 a = C 38 c ∧ zx (C 38 c) 11 ∧ (zi (C 38 c) = 10 → 2 ≤ l) ∧ S' = a :: S) ∨
   ((C 37 c = nI 10 ∨ C 37 c = nI 22) ∧ ∃ b R, S = b :: R ∧ b < 64 ∧ X 111 a = nI b ∧ S' = a :: R) ∨
   (∃ k, C 37 c = nI k ∧ zTwo k ∧ ∃ b d R, S = d :: b :: R ∧ b < 64 ∧ d < 64 ∧ X 111 a = nI b ∧ X 112 a = nI d ∧ S' = a :: R))
def zTr (C X : zm_I) (l s0 m f0 : Nat) : Prop := ∃ st : Nat → List Nat, st 0 = [] ∧ (st m).length = 1 ∧ ∀ i, i < m → X 114 (f0 + i) = nI (zi (X 114 (f0 + i))) ∧ zNd C X l (s0 + i) (zi (X 114 (f0 + i))) (st i) (st (i + 1))
/-- a line of the terms in both -/
def zLn (C X : zm_I) (l : Nat) : Prop := (C 39 l = C 40 l ∧ X 109 (2 + l) = nI 0) ∨
  ∃ s0 m f0, 0 < m ∧ s0 + m ≤ 64 ∧ f0 + m ≤ 64 ∧ C 39 l = nI s0 ∧ C 40 l = nI (s0 + m) ∧ X 109 (2 + l) = nI 1 ∧ X 115 l = nI f0 ∧ X 116 l = nI m ∧ zTr C X l s0 m f0
def zSv (s w : Nat → Int64) : List Nat → Prop
  | [] => True
  | a :: S => s S.length = w a ∧ zBd (w a) ∧ zSv s w S
theorem zSv_s {s s' w : Nat → Int64} : ∀ (S : List Nat), (∀ j, j < S.length → s' j = s j) → zSv s w S → zSv s' w S
  | [], _, _ => trivial
  | a :: S, h, q => ⟨(h S.length (Nat.lt_succ_self _)).trans q.1, q.2.1, zSv_s S (fun j hj => h j (Nat.lt_succ_of_lt hj)) q.2.2⟩
theorem zSv_w {s w w' : Nat → Int64} {a : Nat} (hw : ∀ b, b ≠ a → w' b = w b) : ∀ (S : List Nat), ¬ a ∈ S → zSv s w S → zSv s w' S
  | [], _, _ => trivial
  | b :: S, h, q => by
    have hb : b ≠ a := fun e => h (by rw [e]; exact List.mem_cons_self)
    have hS : ¬ a ∈ S := fun e => h (List.mem_cons_of_mem _ e)
    refine ⟨q.1.trans (hw b hb).symm, ?_, zSv_w hw S hS q.2.2⟩
    rw [hw b hb]
    exact q.2.1
/-- a knot is worked out: its value on top of what waits -/
theorem zSv_put {s w w' : Nat → Int64} {a : Nat} {v : Int64} {R : List Nat} (hw : ∀ b, b ≠ a → w' b = w b) (ha : w' a = v) (hv : zBd v) (hn : ¬ a ∈ R) (h : zSv s w R) : zSv (vp_updL s R.length v) w' (a :: R) :=
  ⟨pk_uLs.trans ha.symm, by rw [ha]; exact hv, zSv_s R (fun j hj => pk_uLn (by omega)) (zSv_w hw R hn h)⟩
theorem zBd_i (x : Int32) : zBd x.toInt64 := by
  have h1 := x.toInt_lt
  have h2 := x.le_toInt
  unfold zBd
  rw [Int32.toInt_toInt64]
  omega
theorem zBd_neg {x : Int64} (h : zBd x) : zBd (-x) := by
  unfold zBd at h ⊢
  rw [Kit.i64_neg (by omega)]
  omega
theorem zBd_b (p : Prop) [Decidable p] : zBd (zbL p) := Decidable.not_not.mp (fun q => zbL_bd p ((fBad_iff _).mpr q))
theorem zBd_ne {x : Int64} (h : zBd x) : ¬ x = zERR := fun e => by
  rw [e] at h
  exact absurd h (by decide +kernel)
