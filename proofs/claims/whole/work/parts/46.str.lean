/-! the Strings -/
section ZSTR
variable {x : zm_X} {g : zm_G} {y : zm_Y} {d mc ms : Nat} {Q : State → Prop} {ce sl pc : Nat} {L : List (Option Value)} {st : List Value} {M : zm_M}
theorem zA_getsC {idx : Nat} {ref : String} (hr : ref = "java/lang/String") (hl : Cond.fieldLink y.2.1 idx ref "COMPACT_STRINGS" "Z" ∈ zm_T) (hd : decode y.1 pc = .ok (.getstatic idx, 3)) (k : zA x g y d mc ms Q ce sl (pc + 3) L (.int (nI 1) :: st) M) : zA x g y d mc ms Q ce sl pc L st M := by
  intro F hn ad H locs ls h1 h2 h3 h4 h5
  have hk := k F hn ad H locs ls h1 h2 h3 h4 h5
  have hZ := F.2.2.2.2.2.2.2.2.2.1.2.2.2.2.1.kept (zm_old (a := 0) F)
  exact va_gets (own := y.2.1) (ref := ref) F.1 F.2.1 hZ h4 F.2.2.2.1 (F.2.2.2.2.1 _ hl) (fun _ h => by rw [hr]; exact h) hd hk
theorem zA_getsF {idx : Nat} (hl : Cond.fieldLink y.2.1 idx "jdk/internal/util/Preconditions" "SIOOBE_FORMATTER" "Ljava/util/function/BiFunction;" ∈ zm_T) (hd : decode y.1 pc = .ok (.getstatic idx, 3)) (k1 : zA x g y d mc ms Q ce sl (pc + 3) L (.null :: st) M) (k2 : zA x g y d mc ms Q ce sl (pc + 3) L (.ref (zm_cB + 11) :: st) M) : zA x g y d mc ms Q ce sl pc L st M := by
  intro F hn ad H locs ls h1 h2 h3 h4 h5
  rcases F.2.2.2.2.2.2.2.2.2.1.2.2.2.2.2.1 with hZ | hZ
  · have hk := k1 F hn ad H locs ls h1 h2 h3 h4 h5
    exact va_gets (own := y.2.1) (ref := "jdk/internal/util/Preconditions") F.1 F.2.1 (hZ.kept (zm_old (a := 0) F)) h4 F.2.2.2.1 (F.2.2.2.2.1 _ hl) (fun _ h => h) hd hk
  · have hk := k2 F hn ad H locs ls h1 h2 h3 h4 h5
    have e : zm_c ad (.ref (zm_cB + 11)) = .ref (g.2.2.2 11) := congrArg Value.ref (h3.2.2.2.2.1 11)
    refine va_gets (own := y.2.1) (ref := "jdk/internal/util/Preconditions") F.1 F.2.1 (hZ.kept (zm_old (a := 0) F)) h4 F.2.2.2.1 (F.2.2.2.2.1 _ hl) (fun _ h => h) hd ?_
    rw [← e]
    exact hk
theorem zA_strC {idx i : Nat} (hi : i < 5) (hl : Cond.fieldLink y.2.1 idx "java/lang/String" "coder" "B" ∈ zm_T) (hd : decode y.1 pc = .ok (.getfield idx, 3)) (k : zA x g y d mc ms Q ce sl (pc + 3) L (.int (nI 0) :: st) M) : zA x g y d mc ms Q ce sl pc L (.ref (zm_cB + (1 + i)) :: st) M := by
  intro F hn ad H locs ls h1 h2 h3 h4 h5
  have hk := k F hn ad H locs ls h1 h2 h3 h4 h5
  have hE := (((F.2.2.2.2.2.2.2.2.2.1.2.2.2.2.2.2.1).1 i hi).2.1).kept (zm_old (a := 0) F)
  have e : zm_c ad (.ref (zm_cB + (1 + i))) = .ref (g.2.2.2 (1 + i)) := congrArg Value.ref (h3.2.2.2.2.1 (1 + i))
  show W _ _ _ _ _ _ _ _ _ _ _ _ _ _ _ (F0 _ _ _ (zm_c ad (.ref (zm_cB + (1 + i))) :: st.map (zm_c ad)))
  rw [e]
  exact vk_getf (own := y.2.1) (ref := "java/lang/String") F.1 F.2.1 hE h4 F.2.2.2.1 (F.2.2.2.2.1 _ hl) (fun _ h => h) hd hk
theorem zA_strV {idx i : Nat} (hi : i < 5) (hl : Cond.fieldLink y.2.1 idx "java/lang/String" "value" "[B" ∈ zm_T) (hd : decode y.1 pc = .ok (.getfield idx, 3)) (k : zA x g y d mc ms Q ce sl (pc + 3) L (.ref (zm_cB + (6 + i)) :: st) M) : zA x g y d mc ms Q ce sl pc L (.ref (zm_cB + (1 + i)) :: st) M := by
  intro F hn ad H locs ls h1 h2 h3 h4 h5
  have hk := k F hn ad H locs ls h1 h2 h3 h4 h5
  have hE := (((F.2.2.2.2.2.2.2.2.2.1.2.2.2.2.2.2.1).1 i hi).2.2.1).kept (zm_old (a := 0) F)
  have e : zm_c ad (.ref (zm_cB + (1 + i))) = .ref (g.2.2.2 (1 + i)) := congrArg Value.ref (h3.2.2.2.2.1 (1 + i))
  have e2 : zm_c ad (.ref (zm_cB + (6 + i))) = .ref (g.2.2.2 (6 + i)) := congrArg Value.ref (h3.2.2.2.2.1 (6 + i))
  show W _ _ _ _ _ _ _ _ _ _ _ _ _ _ _ (F0 _ _ _ (zm_c ad (.ref (zm_cB + (1 + i))) :: st.map (zm_c ad)))
  rw [e]
  refine vk_getf (own := y.2.1) (ref := "java/lang/String") F.1 F.2.1 hE h4 F.2.2.2.1 (F.2.2.2.2.1 _ hl) (fun _ h => h) hd ?_
  rw [← e2]
  exact hk
theorem zA_tbS {a v : Int32} {i : Nat} (hi : i < 5) (j : Nat) (hj : a = nI j) (hn' : j < zm_len.getD i 0) (hb : zm_len.getD i 0 < 2 ^ 31) (hv : (zm_byt.getD i []).getD j 0 = v) (hd : decode y.1 pc = .ok (.baload, 1)) (k : zA x g y d mc ms Q ce sl (pc + 1) L (.int v :: st) M) : zA x g y d mc ms Q ce sl pc L (.int a :: .ref (zm_cB + (6 + i)) :: st) M := by
  intro F hn ad H locs ls h1 h2 h3 h4 h5
  have hk := k F hn ad H locs ls h1 h2 h3 h4 h5
  have hT := (((F.2.2.2.2.2.2.2.2.2.1.2.2.2.2.2.2.1).1 i hi).2.2.2).kept (zm_old (a := 0) F)
  obtain ⟨hin, hcl⟩ := zm_in hj hn' hb
  have e : zm_c ad (.ref (zm_cB + (6 + i))) = .ref (g.2.2.2 (6 + i)) := congrArg Value.ref (h3.2.2.2.2.1 (6 + i))
  show W _ _ _ _ _ _ _ _ _ _ _ _ _ _ _ (F0 _ _ _ (.int a :: zm_c ad (.ref (zm_cB + (6 + i))) :: st.map (zm_c ad)))
  rw [e]
  exact va_tb F.1 F.2.1 hT h4 hin (v := .int v) (by rw [hcl, hv]) hd hk
theorem zA_tlS {v : Int32} {i : Nat} (hi : i < 5) (hv : Int32.ofNat (zm_len.getD i 0) = v) (hd : decode y.1 pc = .ok (.arraylength, 1)) (k : zA x g y d mc ms Q ce sl (pc + 1) L (.int v :: st) M) : zA x g y d mc ms Q ce sl pc L (.ref (zm_cB + (6 + i)) :: st) M := by
  intro F hn ad H locs ls h1 h2 h3 h4 h5
  have hk := k F hn ad H locs ls h1 h2 h3 h4 h5
  have hT := (((F.2.2.2.2.2.2.2.2.2.1.2.2.2.2.2.2.1).1 i hi).2.2.2).kept (zm_old (a := 0) F)
  have e : zm_c ad (.ref (zm_cB + (6 + i))) = .ref (g.2.2.2 (6 + i)) := congrArg Value.ref (h3.2.2.2.2.1 (6 + i))
  show W _ _ _ _ _ _ _ _ _ _ _ _ _ _ _ (F0 _ _ _ (zm_c ad (.ref (zm_cB + (6 + i))) :: st.map (zm_c ad)))
  rw [e]
  exact va_tlen F.1 F.2.1 hT h4 hv hd hk
theorem zA_ldcS {idx i : Nat} (hi : i < 5) (ho : y.2.1 = zm_own i) (hx : idx = zm_idx i) (hd : decode y.1 pc = .ok (.ldc idx, 2)) (k : zA x g y d mc ms Q ce sl (pc + 2) L (.ref (zm_cB + (1 + i)) :: st) M) : zA x g y d mc ms Q ce sl pc L st M := by
  intro F hn ad H locs ls h1 h2 h3 h4 h5
  have hk := k F hn ad H locs ls h1 h2 h3 h4 h5
  have hR := (F.2.2.2.2.2.2.2.2.2.1.2.2.2.2.2.2.2) i hi
  have e : zm_c ad (.ref (zm_cB + (1 + i))) = .ref (g.2.2.2 (1 + i)) := congrArg Value.ref (h3.2.2.2.2.1 (1 + i))
  rw [← hx, ← ho] at hR
  refine va_ldcS F.1 F.2.1 F.2.2.2.1 hR hd ?_
  rw [← e]
  exact hk
end ZSTR
