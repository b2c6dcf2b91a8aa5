/-! ===== rows over numbers nI ===== -/
theorem zn_inc (a : Nat) : nI a + Int32.ofInt 1 = nI (a + 1) := nI_1 a
theorem zn_incN (a n : Nat) (h : Int32.ofInt (n : Int) = nI n) : nI a + Int32.ofInt (n : Int) = nI (a + n) := by rw [h, nI_add]
def zb (p : Prop) [Decidable p] : Int32 := if p then 1 else 0
theorem zb_t {p : Prop} [Decidable p] (h : p) : zb p = 1 := if_pos h
theorem zb_f {p : Prop} [Decidable p] (h : ¬ p) : zb p = 0 := if_neg h
theorem zb_01 (p : Prop) [Decidable p] : zb p = 0 ∨ zb p = 1 := by
  by_cases h : p
  · exact Or.inr (zb_t h)
  · exact Or.inl (zb_f h)
theorem zb_eq0 {p : Prop} [Decidable p] : zb p = 0 ↔ ¬ p := by
  by_cases h : p
  · rw [zb_t h]; simp [h]
  · rw [zb_f h]; simp [h]
theorem zb_ne0 {p : Prop} [Decidable p] : ¬ zb p = 0 ↔ p := by rw [zb_eq0]; exact Decidable.not_not
theorem zb_cong {p q : Prop} [Decidable p] [Decidable q] (h : p ↔ q) : zb p = zb q := by
  by_cases hp : p
  · rw [zb_t hp, zb_t (h.mp hp)]
  · rw [zb_f hp, zb_f (fun z => hp (h.mpr z))]
section ZN
variable {x : zm_X} {g : zm_G} {y : zm_Y} {d mc ms : Nat} {Q : State → Prop} {ce sl pc : Nat} {L : List (Option Value)} {st : List Value} {M : zm_M}
theorem zA_iaddN {a b : Nat} (hd : decode y.1 pc = .ok (.iadd, 1)) (k : zA x g y d mc ms Q ce sl (pc + 1) L (.int (nI (a + b)) :: st) M) : zA x g y d mc ms Q ce sl pc L (.int (nI b) :: .int (nI a) :: st) M := zA_iadd hd (by rw [nI_add]; exact k)
theorem zA_imulN {a b : Nat} (hd : decode y.1 pc = .ok (.imul, 1)) (k : zA x g y d mc ms Q ce sl (pc + 1) L (.int (nI (a * b)) :: st) M) : zA x g y d mc ms Q ce sl pc L (.int (nI b) :: .int (nI a) :: st) M := zA_imul hd (by rw [pk_mul]; exact k)
theorem zA_isubN {a b : Nat} (hd : decode y.1 pc = .ok (.isub, 1)) (h : b ≤ a) (k : zA x g y d mc ms Q ce sl (pc + 1) L (.int (nI (a - b)) :: st) M) : zA x g y d mc ms Q ce sl pc L (.int (nI b) :: .int (nI a) :: st) M := zA_isub hd (by rw [pk_sub h]; exact k)
theorem zA_idivN {a b : Nat} (hd : decode y.1 pc = .ok (.idiv, 1)) (h0 : 0 < b) (ha : a < 2 ^ 31) (hb : b < 2 ^ 31) (k : zA x g y d mc ms Q ce sl (pc + 1) L (.int (nI (a / b)) :: st) M) : zA x g y d mc ms Q ce sl pc L (.int (nI b) :: .int (nI a) :: st) M :=
  zA_idiv hd (nI_ne0 h0 hb) (by rw [pk_div ha h0 hb]; exact k)
theorem zA_iremN {a b : Nat} (hd : decode y.1 pc = .ok (.irem, 1)) (h0 : 0 < b) (ha : a < 2 ^ 31) (hb : b < 2 ^ 31) (k : zA x g y d mc ms Q ce sl (pc + 1) L (.int (nI (a % b)) :: st) M) : zA x g y d mc ms Q ce sl pc L (.int (nI b) :: .int (nI a) :: st) M :=
  zA_irem hd (nI_ne0 h0 hb) (by rw [pk_rem ha h0 hb]; exact k)
theorem zA_icmp_ltN {a b : Nat} {off : Int} (tgt : Nat) (hd : decode y.1 pc = .ok (.if_icmp .lt off, 3)) (ht : (pc : Int) + off = (tgt : Int)) (ha : a < 2 ^ 31) (hb : b < 2 ^ 31) (kt : a < b → zA x g y d mc ms Q ce sl tgt L st M) (kf : b ≤ a → zA x g y d mc ms Q ce sl (pc + 3) L st M) : zA x g y d mc ms Q ce sl pc L (.int (nI b) :: .int (nI a) :: st) M :=
  zA_icmp_lt tgt hd ht (fun c => kt ((nI_ltI ha hb).mp c)) (fun c => kf (Nat.le_of_not_lt fun z => c ((nI_ltI ha hb).mpr z)))
theorem zA_icmp_geN {a b : Nat} {off : Int} (tgt : Nat) (hd : decode y.1 pc = .ok (.if_icmp .ge off, 3)) (ht : (pc : Int) + off = (tgt : Int)) (ha : a < 2 ^ 31) (hb : b < 2 ^ 31) (kt : b ≤ a → zA x g y d mc ms Q ce sl tgt L st M) (kf : a < b → zA x g y d mc ms Q ce sl (pc + 3) L st M) : zA x g y d mc ms Q ce sl pc L (.int (nI b) :: .int (nI a) :: st) M :=
  zA_icmp_ge tgt hd ht (fun c => kt ((nI_leI hb ha).mp c)) (fun c => kf (Nat.lt_of_not_le fun z => c ((nI_leI hb ha).mpr z)))
theorem zA_icmp_gtN {a b : Nat} {off : Int} (tgt : Nat) (hd : decode y.1 pc = .ok (.if_icmp .gt off, 3)) (ht : (pc : Int) + off = (tgt : Int)) (ha : a < 2 ^ 31) (hb : b < 2 ^ 31) (kt : b < a → zA x g y d mc ms Q ce sl tgt L st M) (kf : a ≤ b → zA x g y d mc ms Q ce sl (pc + 3) L st M) : zA x g y d mc ms Q ce sl pc L (.int (nI b) :: .int (nI a) :: st) M :=
  zA_icmp_gt tgt hd ht (fun c => kt ((nI_ltI hb ha).mp c)) (fun c => kf (Nat.le_of_not_lt fun z => c ((nI_ltI hb ha).mpr z)))
theorem zA_icmp_leN {a b : Nat} {off : Int} (tgt : Nat) (hd : decode y.1 pc = .ok (.if_icmp .le off, 3)) (ht : (pc : Int) + off = (tgt : Int)) (ha : a < 2 ^ 31) (hb : b < 2 ^ 31) (kt : a ≤ b → zA x g y d mc ms Q ce sl tgt L st M) (kf : b < a → zA x g y d mc ms Q ce sl (pc + 3) L st M) : zA x g y d mc ms Q ce sl pc L (.int (nI b) :: .int (nI a) :: st) M :=
  zA_icmp_le tgt hd ht (fun c => kt ((nI_leI ha hb).mp c)) (fun c => kf (Nat.lt_of_not_le fun z => c ((nI_leI ha hb).mpr z)))
theorem zA_icmp_eqN {a b : Nat} {off : Int} (tgt : Nat) (hd : decode y.1 pc = .ok (.if_icmp .eq off, 3)) (ht : (pc : Int) + off = (tgt : Int)) (ha : a < 2 ^ 31) (hb : b < 2 ^ 31) (kt : a = b → zA x g y d mc ms Q ce sl tgt L st M) (kf : ¬ a = b → zA x g y d mc ms Q ce sl (pc + 3) L st M) : zA x g y d mc ms Q ce sl pc L (.int (nI b) :: .int (nI a) :: st) M :=
  zA_icmp_eq tgt hd ht (fun c => kt ((nI_eq ha hb).mp c)) (fun c => kf (fun z => c ((nI_eq ha hb).mpr z)))
theorem zA_icmp_neN {a b : Nat} {off : Int} (tgt : Nat) (hd : decode y.1 pc = .ok (.if_icmp .ne off, 3)) (ht : (pc : Int) + off = (tgt : Int)) (ha : a < 2 ^ 31) (hb : b < 2 ^ 31) (kt : ¬ a = b → zA x g y d mc ms Q ce sl tgt L st M) (kf : a = b → zA x g y d mc ms Q ce sl (pc + 3) L st M) : zA x g y d mc ms Q ce sl pc L (.int (nI b) :: .int (nI a) :: st) M :=
  zA_icmp_ne tgt hd ht (fun c => kt (fun z => c ((nI_eq ha hb).mpr z))) (fun c => kf ((nI_eq ha hb).mp c))
/-- a truth value tested -/
theorem zA_if_eqB {p : Prop} [Decidable p] {off : Int} (tgt : Nat) (hd : decode y.1 pc = .ok (.ifCond .eq off, 3)) (ht : (pc : Int) + off = (tgt : Int)) (kt : ¬ p → zA x g y d mc ms Q ce sl tgt L st M) (kf : p → zA x g y d mc ms Q ce sl (pc + 3) L st M) : zA x g y d mc ms Q ce sl pc L (.int (zb p) :: st) M :=
  zA_if_eq tgt hd ht (fun c => kt (zb_eq0.mp c)) (fun c => kf (zb_ne0.mp c))
theorem zA_if_neB {p : Prop} [Decidable p] {off : Int} (tgt : Nat) (hd : decode y.1 pc = .ok (.ifCond .ne off, 3)) (ht : (pc : Int) + off = (tgt : Int)) (kt : p → zA x g y d mc ms Q ce sl tgt L st M) (kf : ¬ p → zA x g y d mc ms Q ce sl (pc + 3) L st M) : zA x g y d mc ms Q ce sl pc L (.int (zb p) :: st) M :=
  zA_if_ne tgt hd ht (fun c => kt (zb_ne0.mp c)) (fun c => kf (zb_eq0.mp c))
end ZN
