/-! numbers: ints as nI of a natural number -/
theorem nI_mul (a b : Nat) : nI a * nI b = nI (a * b) := (Int32.ofNat_mul a b).symm
theorem nI_sub {a b : Nat} (h : b ≤ a) : nI a - nI b = nI (a - b) := by
  have : nI a = nI (a - b) + nI b := by rw [nI_add, Nat.sub_add_cancel h]
  rw [this, Int32.add_sub_cancel]
theorem nI_div {a b : Nat} (ha : a < 2 ^ 31) (hb : b < 2 ^ 31) : nI a / nI b = nI (a / b) := by
  apply Int32.toInt_inj.mp
  have hab : a / b ≤ a := Nat.div_le_self a b
  rw [nI_toInt (by omega), Int32.toInt_div, nI_toInt ha, nI_toInt hb]
  have h1 : ((a : Int).tdiv (b : Int)) = ((a / b : Nat) : Int) := by simp
  rw [h1]
  generalize a / b = q at hab
  rw [Int.bmod_eq_of_le] <;> omega
theorem nI_rem {a b : Nat} (ha : a < 2 ^ 31) (hb : b < 2 ^ 31) : nI a - nI a / nI b * nI b = nI (a % b) := by
  rw [nI_div ha hb, nI_mul, nI_sub (Nat.div_mul_le_self a b)]
  congr 1
  have := Nat.div_add_mod a b
  rw [Nat.mul_comm] at this
  omega
theorem nI_or (a b : Nat) : nI a ||| nI b = nI (a ||| b) := by
  apply Int32.toBitVec_inj.mp
  rw [Int32.toBitVec_or]
  show BitVec.ofNat 32 a ||| BitVec.ofNat 32 b = BitVec.ofNat 32 (a ||| b)
  exact (BitVec.ofNat_or).symm
theorem nI_and (a b : Nat) : nI a &&& nI b = nI (a &&& b) := by
  apply Int32.toBitVec_inj.mp
  rw [Int32.toBitVec_and]
  show BitVec.ofNat 32 a &&& BitVec.ofNat 32 b = BitVec.ofNat 32 (a &&& b)
  exact (BitVec.ofNat_and).symm
theorem nI_xor (a b : Nat) : nI a ^^^ nI b = nI (a ^^^ b) := by
  apply Int32.toBitVec_inj.mp
  rw [Int32.toBitVec_xor]
  show BitVec.ofNat 32 a ^^^ BitVec.ofNat 32 b = BitVec.ofNat 32 (a ^^^ b)
  exact (BitVec.ofNat_xor).symm
theorem nI_shl1 : ∀ k, k < 32 → nI 1 <<< (nI k &&& 31) = nI (2 ^ k) := by decide +kernel
theorem nI_31 : ∀ k, k < 32 → (nI k &&& 31) = nI k := by decide +kernel
theorem nI_sm : ∀ k, k < 32 → ((nI k).toBitVec.smod 32).toNat = k := by decide +kernel
theorem nI_shr {a k : Nat} (ha : a < 2 ^ 31) (hk : k < 32) : nI a >>> (nI k &&& 31) = nI (a >>> k) := by
  apply Int32.toBitVec_inj.mp
  rw [nI_31 k hk, Int32.toBitVec_shiftRight]
  apply BitVec.eq_of_toNat_eq
  have h1 : (nI a).toBitVec = BitVec.ofNat 32 a := rfl
  have h2 : (BitVec.ofNat 32 a).msb = false := by
    rw [BitVec.msb_eq_decide, BitVec.toNat_ofNat, Nat.mod_eq_of_lt (by omega)]
    simp; omega
  show ((nI a).toBitVec.sshiftRight' ((nI k).toBitVec.smod 32)).toNat = (BitVec.ofNat 32 (a >>> k)).toNat
  rw [BitVec.sshiftRight', nI_sm k hk, h1, BitVec.sshiftRight_eq_of_msb_false h2, BitVec.toNat_ushiftRight, BitVec.toNat_ofNat, BitVec.toNat_ofNat, Nat.mod_eq_of_lt (show a < 2 ^ 32 by omega), Nat.mod_eq_of_lt]
  have : a >>> k ≤ a := by rw [Nat.shiftRight_eq_div_pow]; exact Nat.div_le_self _ _
  omega
theorem nI_bit {a k : Nat} : (a >>> k) &&& 1 = if a.testBit k then 1 else 0 := by
  rw [Nat.testBit, Nat.and_comm]
  rcases Nat.and_one_is_mod (a >>> k) ▸ Nat.mod_two_eq_zero_or_one (a >>> k) with h | h <;> (rw [Nat.and_comm] at h; simp [h])
/-- of a those that aren't of b -/
def mx_wo (a b : Nat) : Nat := a ^^^ (a &&& b)
theorem mx_wo_bit (a b i : Nat) : (mx_wo a b).testBit i = (a.testBit i && !b.testBit i) := by
  unfold mx_wo
  rw [Nat.testBit_xor, Nat.testBit_and]
  cases a.testBit i <;> cases b.testBit i <;> rfl
theorem nI_wo (a b : Nat) : nI a &&& (nI b ^^^ (-1)) = nI (mx_wo a b) := by
  unfold mx_wo
  rw [← nI_xor, ← nI_and]
  apply b_ext
  intro i hi
  rw [b_and, b_xor, b_xor, b_and, b_m1 i hi]
  cases bt (nI a) i <;> cases bt (nI b) i <;> rfl
/-- a truth value as the machine has it -/
def mx_b (b : Bool) : Int32 := cond b (nI 1) (nI 0)
theorem mx_bT {c : Prop} [Decidable c] (h : c) : nI 1 = mx_b (decide c) := by rw [decide_eq_true h]; rfl
theorem mx_bF {c : Prop} [Decidable c] (h : ¬ c) : nI 0 = mx_b (decide c) := by rw [decide_eq_false h]; rfl
theorem mx_b0 (b : Bool) : mx_b b = 0 ↔ b = false := by cases b <;> decide
theorem mx_b_nz (b : Bool) : narrow .boolean (.int (mx_b b)) = .int (mx_b b) := by cases b <;> decide
theorem mx_b_fit (b : Bool) : fits .boolean (.int (mx_b b)) = true := by cases b <;> decide
/-- a range: x is one of 0 .. n - 1 -/
theorem mx_rng {x : Int32} {n : Nat} (hn : n < 2 ^ 31) : (0 ≤ x ∧ x < nI n) ↔ ∃ j, j < n ∧ x = nI j := by
  constructor
  · rintro ⟨h1, h2⟩
    obtain ⟨j, hj, rfl⟩ := nI_of (x := x) (by rw [Int32.not_lt]; exact h1)
    exact ⟨j, (nI_ltI hj hn).mp h2, rfl⟩
  · rintro ⟨j, hj, rfl⟩
    exact ⟨by rw [← Int32.not_lt]; exact nI_pos (by omega), (nI_ltI (by omega) hn).mpr hj⟩
theorem mx_bit (a k : Nat) : nI ((a >>> k) &&& 1) = mx_b (decide (a.testBit k = true)) := by
  rw [nI_bit]
  cases a.testBit k <;> rfl
theorem mx_shr_lt {a k : Nat} (h : a < 2 ^ 31) : a >>> k < 2 ^ 31 := by
  have : a >>> k ≤ a := by rw [Nat.shiftRight_eq_div_pow]; exact Nat.div_le_self _ _
  omega
theorem mx_shr0 {a k i : Nat} (h : a >>> k = 0) (hi : k ≤ i) : a.testBit i = false := by
  have h1 : (a >>> k).testBit (i - k) = a.testBit i := by rw [Nat.testBit_shiftRight]; congr 1; omega
  rw [← h1, h, Nat.zero_testBit]
theorem mx_or_lt {a b n : Nat} (ha : a < 2 ^ n) (hb : b < 2 ^ n) : a ||| b < 2 ^ n := Nat.or_lt_two_pow ha hb
theorem mx_and_lt {a b n : Nat} (ha : a < 2 ^ n) : a &&& b < 2 ^ n := Nat.lt_of_le_of_lt Nat.and_le_left ha
theorem mx_nat {x : Int32} {n : Nat} (h : 0 ≤ x.toInt ∧ x.toInt < (n : Int)) : ∃ j, j < n ∧ j < 2 ^ 31 ∧ x = nI j := by
  have hx := Int32.toInt_lt x
  exact ⟨x.toInt.toNat, by omega, by omega, Int32.toInt_inj.mp (by rw [nI_toInt (by omega)]; omega)⟩
def mx_le : List (Option Value) → List (Option Value) → Prop
  | [], _ => True
  | none :: r, _ :: t => mx_le r t
  | some v :: r, w :: t => w = some v ∧ mx_le r t
  | _ :: _, [] => False
theorem mx_le_at : ∀ (a b : List (Option Value)), mx_le a b → ∀ (i : Nat) (v : Value), a[i]? = some (some v) → b[i]? = some (some v)
  | [], _, _, i, v, h => by simp at h
  | none :: r, w :: t, q, 0, v, h => by simp at h
  | none :: r, w :: t, q, i + 1, v, h => by simpa using mx_le_at r t q i v (by simpa using h)
  | some u :: r, w :: t, q, 0, v, h => by
    have h1 : u = v := by simpa using h
    have h2 : w = some u := q.1
    simp [h2, h1]
  | some u :: r, w :: t, q, i + 1, v, h => by simpa using mx_le_at r t q.2 i v (by simpa using h)
  | none :: r, [], q, i, v, h => False.elim q
  | some u :: r, [], q, i, v, h => False.elim q
theorem mx_leS {M : mx_MI} {S : mx_Sc} {d bc bs pc : Nat} {ls ls' : List (Option Value)} {st : List Value} {G : mx_G} {I : mx_I} {Q : Option Value → mx_G → mx_I → Prop} {X : String → mx_G → mx_I → Prop} (h : mx_le ls' ls) (k : mx_V M S d bc bs pc ls' st G I Q X) : mx_V M S d bc bs pc ls st G I Q X := mx_sub (mx_le_at ls' ls h) k
theorem mx_sub2 {M : mx_MI} {S : mx_Sc} {d bc bs pc : Nat} {ls ls' : List (Option Value)} {st : List Value} {G : mx_G} {I : mx_I} {Q : Option Value → mx_G → mx_I → Prop} {X : String → mx_G → mx_I → Prop} (h : ∀ i, i < ls'.length → ls'[i]? = some none ∨ ls'[i]? = ls[i]?) (k : mx_V M S d bc bs pc ls' st G I Q X) : mx_V M S d bc bs pc ls st G I Q X := by
  refine mx_sub (fun i v q => ?_) k
  have hl : i < ls'.length := (List.getElem?_eq_some_iff.mp q).1
  rcases h i hl with e | e
  · rw [e] at q; cases q
  · rw [← e]; exact q
section MXB
variable {M : mx_MI} {S : mx_Sc} {d bc bs pc : Nat} {ls : List (Option Value)} {st : List Value} {G : mx_G} {I : mx_I} {Q : Option Value → mx_G → mx_I → Prop} {X : String → mx_G → mx_I → Prop}
theorem mx_top {x y : Int32} (h : x = y) (k : mx_V M S d bc bs pc ls (.int y :: st) G I Q X) : mx_V M S d bc bs pc ls (.int x :: st) G I Q X := h ▸ k
theorem mx_topl {x y : Int64} (h : x = y) (k : mx_V M S d bc bs pc ls (.long y :: st) G I Q X) : mx_V M S d bc bs pc ls (.long x :: st) G I Q X := h ▸ k
theorem mx_iaddN {a b : Nat} (hd : decode (mx_cc M) pc = .ok (.iadd, 1)) (k : mx_V M S d bc bs (pc + 1) ls (.int (nI (a + b)) :: st) G I Q X) : mx_V M S d bc bs pc ls (.int (nI b) :: .int (nI a) :: st) G I Q X := mx_iadd hd (mx_top (nI_add a b) k)
theorem mx_imulN {a b : Nat} (hd : decode (mx_cc M) pc = .ok (.imul, 1)) (k : mx_V M S d bc bs (pc + 1) ls (.int (nI (a * b)) :: st) G I Q X) : mx_V M S d bc bs pc ls (.int (nI b) :: .int (nI a) :: st) G I Q X := mx_imul hd (mx_top (nI_mul a b) k)
theorem mx_isubN {a b : Nat} (hd : decode (mx_cc M) pc = .ok (.isub, 1)) (h : b ≤ a) (k : mx_V M S d bc bs (pc + 1) ls (.int (nI (a - b)) :: st) G I Q X) : mx_V M S d bc bs pc ls (.int (nI b) :: .int (nI a) :: st) G I Q X := mx_isub hd (mx_top (nI_sub h) k)
theorem mx_idivN {a b : Nat} (hd : decode (mx_cc M) pc = .ok (.idiv, 1)) (ha : a < 2 ^ 31) (hb : 0 < b ∧ b < 2 ^ 31) (k : mx_V M S d bc bs (pc + 1) ls (.int (nI (a / b)) :: st) G I Q X) : mx_V M S d bc bs pc ls (.int (nI b) :: .int (nI a) :: st) G I Q X := mx_idiv (fun q => by rw [← nI_0, nI_eq hb.2 (by decide)] at q; omega) hd (mx_top (nI_div ha hb.2) k)
theorem mx_iremN {a b : Nat} (hd : decode (mx_cc M) pc = .ok (.irem, 1)) (ha : a < 2 ^ 31) (hb : 0 < b ∧ b < 2 ^ 31) (k : mx_V M S d bc bs (pc + 1) ls (.int (nI (a % b)) :: st) G I Q X) : mx_V M S d bc bs pc ls (.int (nI b) :: .int (nI a) :: st) G I Q X := mx_irem (fun q => by rw [← nI_0, nI_eq hb.2 (by decide)] at q; omega) hd (mx_top (nI_rem ha hb.2) k)
theorem mx_iandN {a b : Nat} (hd : decode (mx_cc M) pc = .ok (.iand, 1)) (k : mx_V M S d bc bs (pc + 1) ls (.int (nI (a &&& b)) :: st) G I Q X) : mx_V M S d bc bs pc ls (.int (nI b) :: .int (nI a) :: st) G I Q X := mx_iand hd (mx_top (nI_and a b) k)
theorem mx_iorN {a b : Nat} (hd : decode (mx_cc M) pc = .ok (.ior, 1)) (k : mx_V M S d bc bs (pc + 1) ls (.int (nI (a ||| b)) :: st) G I Q X) : mx_V M S d bc bs pc ls (.int (nI b) :: .int (nI a) :: st) G I Q X := mx_ior hd (mx_top (nI_or a b) k)
theorem mx_ishl1N {b : Nat} (hd : decode (mx_cc M) pc = .ok (.ishl, 1)) (hb : b < 32) (k : mx_V M S d bc bs (pc + 1) ls (.int (nI (2 ^ b)) :: st) G I Q X) : mx_V M S d bc bs pc ls (.int (nI b) :: .int (nI 1) :: st) G I Q X := mx_ishl hd (mx_top (nI_shl1 b hb) k)
theorem mx_ishrN {a b : Nat} (hd : decode (mx_cc M) pc = .ok (.ishr, 1)) (ha : a < 2 ^ 31) (hb : b < 32) (k : mx_V M S d bc bs (pc + 1) ls (.int (nI (a >>> b)) :: st) G I Q X) : mx_V M S d bc bs pc ls (.int (nI b) :: .int (nI a) :: st) G I Q X := mx_ishr hd (mx_top (nI_shr ha hb) k)
theorem mx_iconstN {n : Int} (a : Nat) (hd : decode (mx_cc M) pc = .ok (.iconst n, 1)) (hv : Int32.ofInt n = nI a) (k : mx_V M S d bc bs (pc + 1) ls (.int (nI a) :: st) G I Q X) : mx_V M S d bc bs pc ls st G I Q X := mx_iconst hv hd k
theorem mx_bipushN {n : Int} (a : Nat) (hd : decode (mx_cc M) pc = .ok (.bipush n, 2)) (hv : (Int8.ofInt n).toInt32 = nI a) (k : mx_V M S d bc bs (pc + 2) ls (.int (nI a) :: st) G I Q X) : mx_V M S d bc bs pc ls st G I Q X := mx_bipush hv hd k
theorem mx_sipushN {n : Int} (a : Nat) (hd : decode (mx_cc M) pc = .ok (.sipush n, 3)) (hv : (Int16.ofInt n).toInt32 = nI a) (k : mx_V M S d bc bs (pc + 3) ls (.int (nI a) :: st) G I Q X) : mx_V M S d bc bs pc ls st G I Q X := mx_sipush hv hd k
theorem mx_iincN {i : Nat} {n : Int} {x : Nat} (m : Nat) (hd : decode (mx_cc M) pc = .ok (.iinc i n, 3)) (hl : ls[i]? = some (some (.int (nI x)))) (hv : Int32.ofInt n = nI m) (hn : i < mx_mL M) (hok : mx_ok ls i = true) (k : mx_V M S d bc bs (pc + 3) (ls.set i (some (.int (nI (x + m))))) st G I Q X) : mx_V M S d bc bs pc ls st G I Q X := mx_iinc hd hl (by rw [hv, nI_add]) hn hok k
theorem mx_cmpN_eq {a b : Nat} {off : Int} (tgt : Nat) (hd : decode (mx_cc M) pc = .ok (.if_icmp .eq off, 3)) (ht : (pc : Int) + off = (tgt : Int)) (ha : a < 2 ^ 31) (hb : b < 2 ^ 31) (kt : a = b → mx_V M S d bc bs tgt ls st G I Q X) (kf : ¬ a = b → mx_V M S d bc bs (pc + 3) ls st G I Q X) : mx_V M S d bc bs pc ls (.int (nI b) :: .int (nI a) :: st) G I Q X := mx_icmp_eq hd ht (fun q => kt ((nI_eq ha hb).mp q)) (fun q => kf (fun e => q ((nI_eq ha hb).mpr e)))
theorem mx_cmpN_ne {a b : Nat} {off : Int} (tgt : Nat) (hd : decode (mx_cc M) pc = .ok (.if_icmp .ne off, 3)) (ht : (pc : Int) + off = (tgt : Int)) (ha : a < 2 ^ 31) (hb : b < 2 ^ 31) (kt : ¬ a = b → mx_V M S d bc bs tgt ls st G I Q X) (kf : a = b → mx_V M S d bc bs (pc + 3) ls st G I Q X) : mx_V M S d bc bs pc ls (.int (nI b) :: .int (nI a) :: st) G I Q X := mx_icmp_ne hd ht (fun q => kt (fun e => q ((nI_eq ha hb).mpr e))) (fun q => kf ((nI_eq ha hb).mp q))
theorem mx_cmpN_lt {a b : Nat} {off : Int} (tgt : Nat) (hd : decode (mx_cc M) pc = .ok (.if_icmp .lt off, 3)) (ht : (pc : Int) + off = (tgt : Int)) (ha : a < 2 ^ 31) (hb : b < 2 ^ 31) (kt : a < b → mx_V M S d bc bs tgt ls st G I Q X) (kf : ¬ a < b → mx_V M S d bc bs (pc + 3) ls st G I Q X) : mx_V M S d bc bs pc ls (.int (nI b) :: .int (nI a) :: st) G I Q X := mx_icmp_lt hd ht (fun q => kt ((nI_ltI ha hb).mp q)) (fun q => kf (fun e => q ((nI_ltI ha hb).mpr e)))
theorem mx_cmpN_ge {a b : Nat} {off : Int} (tgt : Nat) (hd : decode (mx_cc M) pc = .ok (.if_icmp .ge off, 3)) (ht : (pc : Int) + off = (tgt : Int)) (ha : a < 2 ^ 31) (hb : b < 2 ^ 31) (kt : b ≤ a → mx_V M S d bc bs tgt ls st G I Q X) (kf : ¬ b ≤ a → mx_V M S d bc bs (pc + 3) ls st G I Q X) : mx_V M S d bc bs pc ls (.int (nI b) :: .int (nI a) :: st) G I Q X := mx_icmp_ge hd ht (fun q => kt ((nI_leI hb ha).mp q)) (fun q => kf (fun e => q ((nI_leI hb ha).mpr e)))
theorem mx_cmpN_gt {a b : Nat} {off : Int} (tgt : Nat) (hd : decode (mx_cc M) pc = .ok (.if_icmp .gt off, 3)) (ht : (pc : Int) + off = (tgt : Int)) (ha : a < 2 ^ 31) (hb : b < 2 ^ 31) (kt : b < a → mx_V M S d bc bs tgt ls st G I Q X) (kf : ¬ b < a → mx_V M S d bc bs (pc + 3) ls st G I Q X) : mx_V M S d bc bs pc ls (.int (nI b) :: .int (nI a) :: st) G I Q X := mx_icmp_gt hd ht (fun q => kt ((nI_ltI hb ha).mp q)) (fun q => kf (fun e => q ((nI_ltI hb ha).mpr e)))
theorem mx_cmpN_le {a b : Nat} {off : Int} (tgt : Nat) (hd : decode (mx_cc M) pc = .ok (.if_icmp .le off, 3)) (ht : (pc : Int) + off = (tgt : Int)) (ha : a < 2 ^ 31) (hb : b < 2 ^ 31) (kt : a ≤ b → mx_V M S d bc bs tgt ls st G I Q X) (kf : ¬ a ≤ b → mx_V M S d bc bs (pc + 3) ls st G I Q X) : mx_V M S d bc bs pc ls (.int (nI b) :: .int (nI a) :: st) G I Q X := mx_icmp_le hd ht (fun q => kt ((nI_leI ha hb).mp q)) (fun q => kf (fun e => q ((nI_leI ha hb).mpr e)))
theorem mx_ifN_eq {a : Nat} {off : Int} (tgt : Nat) (hd : decode (mx_cc M) pc = .ok (.ifCond .eq off, 3)) (ht : (pc : Int) + off = (tgt : Int)) (ha : a < 2 ^ 31) (kt : a = 0 → mx_V M S d bc bs tgt ls st G I Q X) (kf : ¬ a = 0 → mx_V M S d bc bs (pc + 3) ls st G I Q X) : mx_V M S d bc bs pc ls (.int (nI a) :: st) G I Q X := mx_if_eq hd ht (fun q => kt (by rw [← nI_0, nI_eq ha (by decide)] at q; exact q)) (fun q => kf (fun e => q (by rw [e, nI_0])))
theorem mx_ifN_ne {a : Nat} {off : Int} (tgt : Nat) (hd : decode (mx_cc M) pc = .ok (.ifCond .ne off, 3)) (ht : (pc : Int) + off = (tgt : Int)) (ha : a < 2 ^ 31) (kt : ¬ a = 0 → mx_V M S d bc bs tgt ls st G I Q X) (kf : a = 0 → mx_V M S d bc bs (pc + 3) ls st G I Q X) : mx_V M S d bc bs pc ls (.int (nI a) :: st) G I Q X := mx_if_ne hd ht (fun q => kt (fun e => q (by rw [e, nI_0]))) (fun q => kf (by rw [← nI_0, nI_eq ha (by decide)] at q; exact q))
theorem mx_ifB_eq {c : Prop} [Decidable c] {off : Int} (tgt : Nat) (hd : decode (mx_cc M) pc = .ok (.ifCond .eq off, 3)) (ht : (pc : Int) + off = (tgt : Int)) (kt : ¬ c → mx_V M S d bc bs tgt ls st G I Q X) (kf : c → mx_V M S d bc bs (pc + 3) ls st G I Q X) : mx_V M S d bc bs pc ls (.int (mx_b (decide c)) :: st) G I Q X := mx_if_eq hd ht (fun q => kt (by rw [mx_b0] at q; exact of_decide_eq_false q)) (fun q => kf (by rw [mx_b0] at q; exact of_decide_eq_true (by simpa using q)))
theorem mx_ifB_ne {c : Prop} [Decidable c] {off : Int} (tgt : Nat) (hd : decode (mx_cc M) pc = .ok (.ifCond .ne off, 3)) (ht : (pc : Int) + off = (tgt : Int)) (kt : c → mx_V M S d bc bs tgt ls st G I Q X) (kf : ¬ c → mx_V M S d bc bs (pc + 3) ls st G I Q X) : mx_V M S d bc bs pc ls (.int (mx_b (decide c)) :: st) G I Q X := mx_if_ne hd ht (fun q => kt (by rw [mx_b0] at q; exact of_decide_eq_true (by simpa using q))) (fun q => kf (by rw [mx_b0] at q; exact of_decide_eq_false q))
theorem mx_cmpR_lt {x y : Int32} {off : Int} (tgt : Nat) (hd : decode (mx_cc M) pc = .ok (.if_icmp .lt off, 3)) (ht : (pc : Int) + off = (tgt : Int)) (kt : x.toInt < y.toInt → mx_V M S d bc bs tgt ls st G I Q X) (kf : ¬ (x.toInt < y.toInt) → mx_V M S d bc bs (pc + 3) ls st G I Q X) : mx_V M S d bc bs pc ls (.int y :: .int x :: st) G I Q X := mx_icmp_lt hd ht (fun q => kt (Int32.lt_iff_toInt_lt.mp q)) (fun q => kf (fun e => q (Int32.lt_iff_toInt_lt.mpr e)))
theorem mx_cmpRN_lt {x : Int32} {b : Nat} {off : Int} (tgt : Nat) (hd : decode (mx_cc M) pc = .ok (.if_icmp .lt off, 3)) (ht : (pc : Int) + off = (tgt : Int)) (hb : b < 2 ^ 31) (kt : x.toInt < (b : Int) → mx_V M S d bc bs tgt ls st G I Q X) (kf : ¬ (x.toInt < (b : Int)) → mx_V M S d bc bs (pc + 3) ls st G I Q X) : mx_V M S d bc bs pc ls (.int (nI b) :: .int x :: st) G I Q X := mx_cmpR_lt tgt hd ht (fun q => kt (by rw [nI_toInt hb] at q; exact q)) (fun q => kf (by rw [nI_toInt hb] at q; exact q))
theorem mx_cmpNR_lt {a : Nat} {y : Int32} {off : Int} (tgt : Nat) (hd : decode (mx_cc M) pc = .ok (.if_icmp .lt off, 3)) (ht : (pc : Int) + off = (tgt : Int)) (ha : a < 2 ^ 31) (kt : (a : Int) < y.toInt → mx_V M S d bc bs tgt ls st G I Q X) (kf : ¬ ((a : Int) < y.toInt) → mx_V M S d bc bs (pc + 3) ls st G I Q X) : mx_V M S d bc bs pc ls (.int y :: .int (nI a) :: st) G I Q X := mx_cmpR_lt tgt hd ht (fun q => kt (by rw [nI_toInt ha] at q; exact q)) (fun q => kf (by rw [nI_toInt ha] at q; exact q))
theorem mx_cmpR_ge {x y : Int32} {off : Int} (tgt : Nat) (hd : decode (mx_cc M) pc = .ok (.if_icmp .ge off, 3)) (ht : (pc : Int) + off = (tgt : Int)) (kt : y.toInt ≤ x.toInt → mx_V M S d bc bs tgt ls st G I Q X) (kf : ¬ (y.toInt ≤ x.toInt) → mx_V M S d bc bs (pc + 3) ls st G I Q X) : mx_V M S d bc bs pc ls (.int y :: .int x :: st) G I Q X := mx_icmp_ge hd ht (fun q => kt (Int32.le_iff_toInt_le.mp q)) (fun q => kf (fun e => q (Int32.le_iff_toInt_le.mpr e)))
theorem mx_cmpRN_ge {x : Int32} {b : Nat} {off : Int} (tgt : Nat) (hd : decode (mx_cc M) pc = .ok (.if_icmp .ge off, 3)) (ht : (pc : Int) + off = (tgt : Int)) (hb : b < 2 ^ 31) (kt : (b : Int) ≤ x.toInt → mx_V M S d bc bs tgt ls st G I Q X) (kf : ¬ ((b : Int) ≤ x.toInt) → mx_V M S d bc bs (pc + 3) ls st G I Q X) : mx_V M S d bc bs pc ls (.int (nI b) :: .int x :: st) G I Q X := mx_cmpR_ge tgt hd ht (fun q => kt (by rw [nI_toInt hb] at q; exact q)) (fun q => kf (by rw [nI_toInt hb] at q; exact q))
theorem mx_cmpNR_ge {a : Nat} {y : Int32} {off : Int} (tgt : Nat) (hd : decode (mx_cc M) pc = .ok (.if_icmp .ge off, 3)) (ht : (pc : Int) + off = (tgt : Int)) (ha : a < 2 ^ 31) (kt : y.toInt ≤ (a : Int) → mx_V M S d bc bs tgt ls st G I Q X) (kf : ¬ (y.toInt ≤ (a : Int)) → mx_V M S d bc bs (pc + 3) ls st G I Q X) : mx_V M S d bc bs pc ls (.int y :: .int (nI a) :: st) G I Q X := mx_cmpR_ge tgt hd ht (fun q => kt (by rw [nI_toInt ha] at q; exact q)) (fun q => kf (by rw [nI_toInt ha] at q; exact q))
theorem mx_cmpR_gt {x y : Int32} {off : Int} (tgt : Nat) (hd : decode (mx_cc M) pc = .ok (.if_icmp .gt off, 3)) (ht : (pc : Int) + off = (tgt : Int)) (kt : y.toInt < x.toInt → mx_V M S d bc bs tgt ls st G I Q X) (kf : ¬ (y.toInt < x.toInt) → mx_V M S d bc bs (pc + 3) ls st G I Q X) : mx_V M S d bc bs pc ls (.int y :: .int x :: st) G I Q X := mx_icmp_gt hd ht (fun q => kt (Int32.lt_iff_toInt_lt.mp q)) (fun q => kf (fun e => q (Int32.lt_iff_toInt_lt.mpr e)))
theorem mx_cmpRN_gt {x : Int32} {b : Nat} {off : Int} (tgt : Nat) (hd : decode (mx_cc M) pc = .ok (.if_icmp .gt off, 3)) (ht : (pc : Int) + off = (tgt : Int)) (hb : b < 2 ^ 31) (kt : (b : Int) < x.toInt → mx_V M S d bc bs tgt ls st G I Q X) (kf : ¬ ((b : Int) < x.toInt) → mx_V M S d bc bs (pc + 3) ls st G I Q X) : mx_V M S d bc bs pc ls (.int (nI b) :: .int x :: st) G I Q X := mx_cmpR_gt tgt hd ht (fun q => kt (by rw [nI_toInt hb] at q; exact q)) (fun q => kf (by rw [nI_toInt hb] at q; exact q))
theorem mx_cmpNR_gt {a : Nat} {y : Int32} {off : Int} (tgt : Nat) (hd : decode (mx_cc M) pc = .ok (.if_icmp .gt off, 3)) (ht : (pc : Int) + off = (tgt : Int)) (ha : a < 2 ^ 31) (kt : y.toInt < (a : Int) → mx_V M S d bc bs tgt ls st G I Q X) (kf : ¬ (y.toInt < (a : Int)) → mx_V M S d bc bs (pc + 3) ls st G I Q X) : mx_V M S d bc bs pc ls (.int y :: .int (nI a) :: st) G I Q X := mx_cmpR_gt tgt hd ht (fun q => kt (by rw [nI_toInt ha] at q; exact q)) (fun q => kf (by rw [nI_toInt ha] at q; exact q))
theorem mx_cmpR_le {x y : Int32} {off : Int} (tgt : Nat) (hd : decode (mx_cc M) pc = .ok (.if_icmp .le off, 3)) (ht : (pc : Int) + off = (tgt : Int)) (kt : x.toInt ≤ y.toInt → mx_V M S d bc bs tgt ls st G I Q X) (kf : ¬ (x.toInt ≤ y.toInt) → mx_V M S d bc bs (pc + 3) ls st G I Q X) : mx_V M S d bc bs pc ls (.int y :: .int x :: st) G I Q X := mx_icmp_le hd ht (fun q => kt (Int32.le_iff_toInt_le.mp q)) (fun q => kf (fun e => q (Int32.le_iff_toInt_le.mpr e)))
theorem mx_cmpRN_le {x : Int32} {b : Nat} {off : Int} (tgt : Nat) (hd : decode (mx_cc M) pc = .ok (.if_icmp .le off, 3)) (ht : (pc : Int) + off = (tgt : Int)) (hb : b < 2 ^ 31) (kt : x.toInt ≤ (b : Int) → mx_V M S d bc bs tgt ls st G I Q X) (kf : ¬ (x.toInt ≤ (b : Int)) → mx_V M S d bc bs (pc + 3) ls st G I Q X) : mx_V M S d bc bs pc ls (.int (nI b) :: .int x :: st) G I Q X := mx_cmpR_le tgt hd ht (fun q => kt (by rw [nI_toInt hb] at q; exact q)) (fun q => kf (by rw [nI_toInt hb] at q; exact q))
theorem mx_cmpNR_le {a : Nat} {y : Int32} {off : Int} (tgt : Nat) (hd : decode (mx_cc M) pc = .ok (.if_icmp .le off, 3)) (ht : (pc : Int) + off = (tgt : Int)) (ha : a < 2 ^ 31) (kt : (a : Int) ≤ y.toInt → mx_V M S d bc bs tgt ls st G I Q X) (kf : ¬ ((a : Int) ≤ y.toInt) → mx_V M S d bc bs (pc + 3) ls st G I Q X) : mx_V M S d bc bs pc ls (.int y :: .int (nI a) :: st) G I Q X := mx_cmpR_le tgt hd ht (fun q => kt (by rw [nI_toInt ha] at q; exact q)) (fun q => kf (by rw [nI_toInt ha] at q; exact q))
theorem mx_ifR_lt {x : Int32} {off : Int} (tgt : Nat) (hd : decode (mx_cc M) pc = .ok (.ifCond .lt off, 3)) (ht : (pc : Int) + off = (tgt : Int)) (kt : x.toInt < 0 → mx_V M S d bc bs tgt ls st G I Q X) (kf : ¬ (x.toInt < 0) → mx_V M S d bc bs (pc + 3) ls st G I Q X) : mx_V M S d bc bs pc ls (.int x :: st) G I Q X := mx_if_lt hd ht (fun q => kt (Int32.lt_iff_toInt_lt.mp q)) (fun q => kf (fun e => q (Int32.lt_iff_toInt_lt.mpr e)))
theorem mx_ifN_lt {a : Nat} {off : Int} (tgt : Nat) (hd : decode (mx_cc M) pc = .ok (.ifCond .lt off, 3)) (ht : (pc : Int) + off = (tgt : Int)) (ha : a < 2 ^ 31) (kt : a < 0 → mx_V M S d bc bs tgt ls st G I Q X) (kf : ¬ (a < 0) → mx_V M S d bc bs (pc + 3) ls st G I Q X) : mx_V M S d bc bs pc ls (.int (nI a) :: st) G I Q X := mx_ifR_lt tgt hd ht (fun q => kt (by rw [nI_toInt ha] at q; omega)) (fun q => kf (by rw [nI_toInt ha] at q; omega))
theorem mx_ifR_ge {x : Int32} {off : Int} (tgt : Nat) (hd : decode (mx_cc M) pc = .ok (.ifCond .ge off, 3)) (ht : (pc : Int) + off = (tgt : Int)) (kt : 0 ≤ x.toInt → mx_V M S d bc bs tgt ls st G I Q X) (kf : ¬ (0 ≤ x.toInt) → mx_V M S d bc bs (pc + 3) ls st G I Q X) : mx_V M S d bc bs pc ls (.int x :: st) G I Q X := mx_if_ge hd ht (fun q => kt (Int32.le_iff_toInt_le.mp q)) (fun q => kf (fun e => q (Int32.le_iff_toInt_le.mpr e)))
theorem mx_ifN_ge {a : Nat} {off : Int} (tgt : Nat) (hd : decode (mx_cc M) pc = .ok (.ifCond .ge off, 3)) (ht : (pc : Int) + off = (tgt : Int)) (ha : a < 2 ^ 31) (kt : 0 ≤ a → mx_V M S d bc bs tgt ls st G I Q X) (kf : ¬ (0 ≤ a) → mx_V M S d bc bs (pc + 3) ls st G I Q X) : mx_V M S d bc bs pc ls (.int (nI a) :: st) G I Q X := mx_ifR_ge tgt hd ht (fun q => kt (by rw [nI_toInt ha] at q; omega)) (fun q => kf (by rw [nI_toInt ha] at q; omega))
theorem mx_ifR_gt {x : Int32} {off : Int} (tgt : Nat) (hd : decode (mx_cc M) pc = .ok (.ifCond .gt off, 3)) (ht : (pc : Int) + off = (tgt : Int)) (kt : 0 < x.toInt → mx_V M S d bc bs tgt ls st G I Q X) (kf : ¬ (0 < x.toInt) → mx_V M S d bc bs (pc + 3) ls st G I Q X) : mx_V M S d bc bs pc ls (.int x :: st) G I Q X := mx_if_gt hd ht (fun q => kt (Int32.lt_iff_toInt_lt.mp q)) (fun q => kf (fun e => q (Int32.lt_iff_toInt_lt.mpr e)))
theorem mx_ifN_gt {a : Nat} {off : Int} (tgt : Nat) (hd : decode (mx_cc M) pc = .ok (.ifCond .gt off, 3)) (ht : (pc : Int) + off = (tgt : Int)) (ha : a < 2 ^ 31) (kt : 0 < a → mx_V M S d bc bs tgt ls st G I Q X) (kf : ¬ (0 < a) → mx_V M S d bc bs (pc + 3) ls st G I Q X) : mx_V M S d bc bs pc ls (.int (nI a) :: st) G I Q X := mx_ifR_gt tgt hd ht (fun q => kt (by rw [nI_toInt ha] at q; omega)) (fun q => kf (by rw [nI_toInt ha] at q; omega))
theorem mx_ifR_le {x : Int32} {off : Int} (tgt : Nat) (hd : decode (mx_cc M) pc = .ok (.ifCond .le off, 3)) (ht : (pc : Int) + off = (tgt : Int)) (kt : x.toInt ≤ 0 → mx_V M S d bc bs tgt ls st G I Q X) (kf : ¬ (x.toInt ≤ 0) → mx_V M S d bc bs (pc + 3) ls st G I Q X) : mx_V M S d bc bs pc ls (.int x :: st) G I Q X := mx_if_le hd ht (fun q => kt (Int32.le_iff_toInt_le.mp q)) (fun q => kf (fun e => q (Int32.le_iff_toInt_le.mpr e)))
theorem mx_ifN_le {a : Nat} {off : Int} (tgt : Nat) (hd : decode (mx_cc M) pc = .ok (.ifCond .le off, 3)) (ht : (pc : Int) + off = (tgt : Int)) (ha : a < 2 ^ 31) (kt : a ≤ 0 → mx_V M S d bc bs tgt ls st G I Q X) (kf : ¬ (a ≤ 0) → mx_V M S d bc bs (pc + 3) ls st G I Q X) : mx_V M S d bc bs pc ls (.int (nI a) :: st) G I Q X := mx_ifR_le tgt hd ht (fun q => kt (by rw [nI_toInt ha] at q; omega)) (fun q => kf (by rw [nI_toInt ha] at q; omega))
theorem mx_istoreE {i : Nat} {x : Int32} {ls' : List (Option Value)}  (hd : decode (mx_cc M) pc = .ok (.istore i, 2)) (hn : i < mx_mL M) (hok : mx_ok ls i = true) (hls : ls.set i (some (.int x)) = ls') (k : mx_V M S d bc bs (pc + 2) ls' st G I Q X) : mx_V M S d bc bs pc ls (.int x :: st) G I Q X := mx_istore  hd hn hok (hls ▸ k)
theorem mx_istoreE_n {i : Nat} {x : Int32} {ls' : List (Option Value)} {j : Fin 4} (hi : (j : Nat) = i) (hd : decode (mx_cc M) pc = .ok (.istore_n j, 1)) (hn : i < mx_mL M) (hok : mx_ok ls i = true) (hls : ls.set i (some (.int x)) = ls') (k : mx_V M S d bc bs (pc + 1) ls' st G I Q X) : mx_V M S d bc bs pc ls (.int x :: st) G I Q X := mx_istore_n hi hd hn hok (hls ▸ k)
theorem mx_astoreE {i : Nat} {x : Nat} {ls' : List (Option Value)}  (hd : decode (mx_cc M) pc = .ok (.astore i, 2)) (hn : i < mx_mL M) (hok : mx_ok ls i = true) (hls : ls.set i (some (.ref x)) = ls') (k : mx_V M S d bc bs (pc + 2) ls' st G I Q X) : mx_V M S d bc bs pc ls (.ref x :: st) G I Q X := mx_astore  hd hn hok (hls ▸ k)
theorem mx_astoreE_n {i : Nat} {x : Nat} {ls' : List (Option Value)} {j : Fin 4} (hi : (j : Nat) = i) (hd : decode (mx_cc M) pc = .ok (.astore_n j, 1)) (hn : i < mx_mL M) (hok : mx_ok ls i = true) (hls : ls.set i (some (.ref x)) = ls') (k : mx_V M S d bc bs (pc + 1) ls' st G I Q X) : mx_V M S d bc bs pc ls (.ref x :: st) G I Q X := mx_astore_n hi hd hn hok (hls ▸ k)
theorem mx_lstoreE {i : Nat} {x : Int64} {ls' : List (Option Value)}  (hd : decode (mx_cc M) pc = .ok (.lstore i, 2)) (hn : i + 1 < mx_mL M) (hok : mx_ok ls i = true) (hls : (ls.set i (some (.long x))).set (i + 1) none = ls') (k : mx_V M S d bc bs (pc + 2) ls' st G I Q X) : mx_V M S d bc bs pc ls (.long x :: st) G I Q X := mx_lstore  hd hn hok (hls ▸ k)
theorem mx_lstoreE_n {i : Nat} {x : Int64} {ls' : List (Option Value)} {j : Fin 4} (hi : (j : Nat) = i) (hd : decode (mx_cc M) pc = .ok (.lstore_n j, 1)) (hn : i + 1 < mx_mL M) (hok : mx_ok ls i = true) (hls : (ls.set i (some (.long x))).set (i + 1) none = ls') (k : mx_V M S d bc bs (pc + 1) ls' st G I Q X) : mx_V M S d bc bs pc ls (.long x :: st) G I Q X := mx_lstore_n hi hd hn hok (hls ▸ k)
theorem mx_iincE {i : Nat} {n : Int} {x : Nat} (m : Nat) {ls' : List (Option Value)} (hd : decode (mx_cc M) pc = .ok (.iinc i n, 3)) (hl : ls[i]? = some (some (.int (nI x)))) (hv : Int32.ofInt n = nI m) (hn : i < mx_mL M) (hok : mx_ok ls i = true) (hls : ls.set i (some (.int (nI (x + m)))) = ls') (k : mx_V M S d bc bs (pc + 3) ls' st G I Q X) : mx_V M S d bc bs pc ls st G I Q X := mx_iincN m hd hl hv hn hok (hls ▸ k)
theorem mx_if0_eq {off : Int} (tgt : Nat) (hd : decode (mx_cc M) pc = .ok (.ifCond .eq off, 3)) (ht : (pc : Int) + off = (tgt : Int)) (k : mx_V M S d bc bs tgt ls st G I Q X) : mx_V M S d bc bs pc ls (.int (nI 0) :: st) G I Q X := mx_ifN_eq tgt hd ht (by decide) (fun _ => k) (fun q => absurd rfl q)
theorem mx_if1_eq {off : Int} (tgt : Nat) (hd : decode (mx_cc M) pc = .ok (.ifCond .eq off, 3)) (ht : (pc : Int) + off = (tgt : Int)) (k : mx_V M S d bc bs (pc + 3) ls st G I Q X) : mx_V M S d bc bs pc ls (.int (nI 1) :: st) G I Q X := mx_ifN_eq tgt hd ht (by decide) (fun q => absurd q (by decide)) (fun _ => k)
theorem mx_if0_ne {off : Int} (tgt : Nat) (hd : decode (mx_cc M) pc = .ok (.ifCond .ne off, 3)) (ht : (pc : Int) + off = (tgt : Int)) (k : mx_V M S d bc bs (pc + 3) ls st G I Q X) : mx_V M S d bc bs pc ls (.int (nI 0) :: st) G I Q X := mx_ifN_ne tgt hd ht (by decide) (fun q => absurd rfl q) (fun _ => k)
theorem mx_if1_ne {off : Int} (tgt : Nat) (hd : decode (mx_cc M) pc = .ok (.ifCond .ne off, 3)) (ht : (pc : Int) + off = (tgt : Int)) (k : mx_V M S d bc bs tgt ls st G I Q X) : mx_V M S d bc bs pc ls (.int (nI 1) :: st) G I Q X := mx_ifN_ne tgt hd ht (by decide) (fun _ => k) (fun q => absurd q (by decide))
theorem mx_getV {idx a ci k : Nat} (v : Int32) (hd : decode (mx_cc M) pc = .ok (.getfield idx, 3)) (hlk : Cond.fieldLink (mx_own M) idx (mx_F ci k).1 (mx_F ci k).2.1 (mx_F ci k).2.2.1 ∈ mx_AW) (hk : k < mx_N ci) (hr : mx_isR ci k = false) (ht : mx_tg G a = ci + 10) (e : I a k = v) (kk : mx_V M S d bc bs (pc + 3) ls (.int v :: st) G I Q X) : mx_V M S d bc bs pc ls (.ref a :: st) G I Q X := mx_getI hd hlk hk hr ht (mx_top e kk)
theorem mx_ialdV {a : Nat} {i : Int32} (j : Nat) (v : Int32) (hd : decode (mx_cc M) pc = .ok (.iaload, 1)) (ht : mx_tg G a = 1) (hi : mx_ix i j (mx_ln G a)) (e : I a j = v) (kk : mx_V M S d bc bs (pc + 1) ls (.int v :: st) G I Q X) : mx_V M S d bc bs pc ls (.int i :: .ref a :: st) G I Q X := mx_iald j hd ht hi (mx_top e kk)
theorem mx_caldV {a : Nat} {i : Int32} (j : Nat) (v : Int32) (hd : decode (mx_cc M) pc = .ok (.caload, 1)) (ht : mx_tg G a = 2) (hi : mx_ix i j (mx_ln G a)) (e : I a j = v) (kk : mx_V M S d bc bs (pc + 1) ls (.int v :: st) G I Q X) : mx_V M S d bc bs pc ls (.int i :: .ref a :: st) G I Q X := mx_cald j hd ht hi (mx_top e kk)
theorem mx_zaldV {a : Nat} {i : Int32} (j : Nat) (v : Int32) (hd : decode (mx_cc M) pc = .ok (.baload, 1)) (ht : mx_tg G a = 3) (hi : mx_ix i j (mx_ln G a)) (e : I a j = v) (kk : mx_V M S d bc bs (pc + 1) ls (.int v :: st) G I Q X) : mx_V M S d bc bs pc ls (.int i :: .ref a :: st) G I Q X := mx_zald j hd ht hi (mx_top e kk)
/-- a call that changes nothing, answers r -/
def mx_CTp (y : MethodName) (M' : mx_MI) (d' : Nat) (av : List Value) (G : mx_G) (I : mx_I) (r : Option Value) : Prop := mx_CT y M' d' 0 0 av G I (fun v G' I' => v = r ∧ G' = G ∧ I' = I) (fun _ _ _ => False)
/-- a call that changes ints alone -/
def mx_CTi (y : MethodName) (M' : mx_MI) (d' : Nat) (av : List Value) (G : mx_G) (I : mx_I) (R : Option Value → mx_I → Prop) : Prop := mx_CT y M' d' 0 0 av G I (fun v G' I' => R v I' ∧ G' = G) (fun _ _ _ => False)
theorem mx_callVp {y : MethodName} {M' : mx_MI} {d' idx n : Nat} {As rest stk : List Value} {b ci : Nat} {r : Option Value} (hd : decode (mx_cc M) pc = .ok (.invokevirtual idx, 3)) (hc : mx_CTp y M' d' (.ref b :: As) G I r) (hk : mx_kM y M' n) (hhh : mx_hh M' = []) (h1 : Cond.methodLink (mx_own M) idx y ∈ mx_AW) (h2 : Cond.instanceMethod y ∈ mx_AW) (h3 : Cond.selects (mx_C ci) y y ∈ mx_AW) (ht : mx_tg G b = ci + 10) (hst : stk = As.reverse ++ .ref b :: rest) (hn : As.length = n) (hW : (rest.map fun v => v.category).sum ≤ 8) (hdd : d' + 1 ≤ d) (k : mx_V M S d bc bs (pc + 3) ls (r.toList ++ rest) G I Q X) : mx_V M S d bc bs pc ls stk G I Q X := mx_callV (b1 := 0) (b2 := 0) hd hc hk hhh h1 h2 h3 ht hst hn hW hdd (fun _ _ _ q => q.elim) (fun v G' I' q => by obtain ⟨rfl, rfl, rfl⟩ := q; exact k)
theorem mx_callVi {y : MethodName} {M' : mx_MI} {d' idx n : Nat} {As rest stk : List Value} {b ci : Nat} {R : Option Value → mx_I → Prop} (hd : decode (mx_cc M) pc = .ok (.invokevirtual idx, 3)) (hc : mx_CTi y M' d' (.ref b :: As) G I R) (hk : mx_kM y M' n) (hhh : mx_hh M' = []) (h1 : Cond.methodLink (mx_own M) idx y ∈ mx_AW) (h2 : Cond.instanceMethod y ∈ mx_AW) (h3 : Cond.selects (mx_C ci) y y ∈ mx_AW) (ht : mx_tg G b = ci + 10) (hst : stk = As.reverse ++ .ref b :: rest) (hn : As.length = n) (hW : (rest.map fun v => v.category).sum ≤ 8) (hdd : d' + 1 ≤ d) (k : ∀ v I', R v I' → mx_V M S d bc bs (pc + 3) ls (v.toList ++ rest) G I' Q X) : mx_V M S d bc bs pc ls stk G I Q X := mx_callV (b1 := 0) (b2 := 0) hd hc hk hhh h1 h2 h3 ht hst hn hW hdd (fun _ _ _ q => q.elim) (fun v G' I' q => by obtain ⟨h, rfl⟩ := q; exact k v I' h)
theorem mx_callSp {y : MethodName} {M' : mx_MI} {d' idx n : Nat} {As rest stk : List Value} {r : Option Value} (hd : decode (mx_cc M) pc = .ok (.invokestatic idx, 3)) (hc : mx_CTp y M' d' As G I r) (hk : mx_kM y M' n) (hhh : mx_hh M' = []) (h1 : Cond.methodLink (mx_own M) idx y ∈ mx_AW) (h2 : Cond.static y ∈ mx_AW) (hst : stk = As.reverse ++ rest) (hn : As.length = n) (hW : (rest.map fun v => v.category).sum ≤ 8) (hdd : d' + 1 ≤ d) (k : mx_V M S d bc bs (pc + 3) ls (r.toList ++ rest) G I Q X) : mx_V M S d bc bs pc ls stk G I Q X := mx_callS (b1 := 0) (b2 := 0) hd hc hk hhh h1 h2 hst hn hW hdd (fun _ _ _ q => q.elim) (fun v G' I' q => by obtain ⟨rfl, rfl, rfl⟩ := q; exact k)
theorem mx_callSi {y : MethodName} {M' : mx_MI} {d' idx n : Nat} {As rest stk : List Value} {R : Option Value → mx_I → Prop} (hd : decode (mx_cc M) pc = .ok (.invokestatic idx, 3)) (hc : mx_CTi y M' d' As G I R) (hk : mx_kM y M' n) (hhh : mx_hh M' = []) (h1 : Cond.methodLink (mx_own M) idx y ∈ mx_AW) (h2 : Cond.static y ∈ mx_AW) (hst : stk = As.reverse ++ rest) (hn : As.length = n) (hW : (rest.map fun v => v.category).sum ≤ 8) (hdd : d' + 1 ≤ d) (k : ∀ v I', R v I' → mx_V M S d bc bs (pc + 3) ls (v.toList ++ rest) G I' Q X) : mx_V M S d bc bs pc ls stk G I Q X := mx_callS (b1 := 0) (b2 := 0) hd hc hk hhh h1 h2 hst hn hW hdd (fun _ _ _ q => q.elim) (fun v G' I' q => by obtain ⟨h, rfl⟩ := q; exact k v I' h)
theorem mx_callSNp {y : MethodName} {M' : mx_MI} {d' idx n : Nat} {As rest stk : List Value} {host : String} {r : Option Value} (hd : decode (mx_cc M) pc = .ok (.invokestatic idx, 3)) (hc : mx_CTp y M' d' As G I r) (hk : mx_kM y M' n) (hhh : mx_hh M' = []) (h1 : Cond.methodLinkNest (mx_own M) idx y host ∈ mx_NW) (h2 : Cond.static y ∈ mx_AW) (hst : stk = As.reverse ++ rest) (hn : As.length = n) (hW : (rest.map fun v => v.category).sum ≤ 8) (hdd : d' + 1 ≤ d) (k : mx_V M S d bc bs (pc + 3) ls (r.toList ++ rest) G I Q X) : mx_V M S d bc bs pc ls stk G I Q X := mx_callSN (b1 := 0) (b2 := 0) hd hc hk hhh h1 h2 hst hn hW hdd (fun _ _ _ q => q.elim) (fun v G' I' q => by obtain ⟨rfl, rfl, rfl⟩ := q; exact k)
theorem mx_callSNi {y : MethodName} {M' : mx_MI} {d' idx n : Nat} {As rest stk : List Value} {host : String} {R : Option Value → mx_I → Prop} (hd : decode (mx_cc M) pc = .ok (.invokestatic idx, 3)) (hc : mx_CTi y M' d' As G I R) (hk : mx_kM y M' n) (hhh : mx_hh M' = []) (h1 : Cond.methodLinkNest (mx_own M) idx y host ∈ mx_NW) (h2 : Cond.static y ∈ mx_AW) (hst : stk = As.reverse ++ rest) (hn : As.length = n) (hW : (rest.map fun v => v.category).sum ≤ 8) (hdd : d' + 1 ≤ d) (k : ∀ v I', R v I' → mx_V M S d bc bs (pc + 3) ls (v.toList ++ rest) G I' Q X) : mx_V M S d bc bs pc ls stk G I Q X := mx_callSN (b1 := 0) (b2 := 0) hd hc hk hhh h1 h2 hst hn hW hdd (fun _ _ _ q => q.elim) (fun v G' I' q => by obtain ⟨h, rfl⟩ := q; exact k v I' h)
end MXB
theorem km_X0_init : mx_kM yX0_init mX0_init 0 := ⟨k_273, k_39, by decide +kernel, by decide⟩
theorem km_X0_aimAt : mx_kM yX0_aimAt mX0_aimAt 2 := ⟨k_585, k_39, by decide +kernel, by decide⟩
theorem km_X0_goingsFrom : mx_kM yX0_goingsFrom mX0_goingsFrom 1 := ⟨k_610, k_39, by decide +kernel, by decide⟩
theorem km_X0_goingAt : mx_kM yX0_goingAt mX0_goingAt 3 := ⟨k_888, k_39, by decide +kernel, by decide⟩
theorem km_X0_reset : mx_kM yX0_reset mX0_reset 0 := ⟨k_589, k_39, by decide +kernel, by decide⟩
theorem km_X0_offer : mx_kM yX0_offer mX0_offer 3 := ⟨k_595, k_39, by decide +kernel, by decide⟩
theorem km_X0_settle : mx_kM yX0_settle mX0_settle 3 := ⟨k_601, k_39, by decide +kernel, by decide⟩
theorem km_X0_goBack : mx_kM yX0_goBack mX0_goBack 3 := ⟨k_605, k_39, by decide +kernel, by decide⟩
theorem km_X0_advance : mx_kM yX0_advance mX0_advance 1 := ⟨k_893, k_39, by decide +kernel, by decide⟩
theorem km_X0_goes : mx_kM yX0_goes mX0_goes 3 := ⟨k_897, k_39, by decide +kernel, by decide⟩
theorem km_X0_leaving : mx_kM yX0_leaving mX0_leaving 3 := ⟨k_910, k_39, by decide +kernel, by decide⟩
theorem km_X1_init : mx_kM yX1_init mX1_init 1 := ⟨k_214, k_36, by decide +kernel, by decide⟩
theorem km_X1_remember : mx_kM yX1_remember mX1_remember 1 := ⟨k_765, k_36, by decide +kernel, by decide⟩
theorem km_X1_bringBack : mx_kM yX1_bringBack mX1_bringBack 1 := ⟨k_863, k_36, by decide +kernel, by decide⟩
theorem km_X1_forgetAll : mx_kM yX1_forgetAll mX1_forgetAll 0 := ⟨k_702, k_36, by decide +kernel, by decide⟩
theorem km_X2_init : mx_kM yX2_init mX2_init 0 := ⟨k_78, k_32, by decide +kernel, by decide⟩
theorem km_X2_isLetter : mx_kM yX2_isLetter mX2_isLetter 1 := ⟨k_811, k_32, by decide +kernel, by decide⟩
theorem km_X2_isEnding : mx_kM yX2_isEnding mX2_isEnding 1 := ⟨k_814, k_32, by decide +kernel, by decide⟩
theorem km_X2_accepts : mx_kM yX2_accepts mX2_accepts 1 := ⟨k_565, k_32, by decide +kernel, by decide⟩
theorem km_X2_following : mx_kM yX2_following mX2_following 1 := ⟨k_569, k_32, by decide +kernel, by decide⟩
theorem km_X2_allow : mx_kM yX2_allow mX2_allow 2 := ⟨k_843, k_32, by decide +kernel, by decide⟩
theorem km_X2_place : mx_kM yX2_place mX2_place 1 := ⟨k_835, k_32, by decide +kernel, by decide⟩
theorem km_X3_init : mx_kM yX3_init mX3_init 0 := ⟨k_117, k_33, by decide +kernel, by decide⟩
theorem km_X3_read : mx_kM yX3_read mX3_read 1 := ⟨k_818, k_33, by decide +kernel, by decide⟩
theorem km_X3_readSign : mx_kM yX3_readSign mX3_readSign 2 := ⟨k_830, k_33, by decide +kernel, by decide⟩
theorem km_X3_begin : mx_kM yX3_begin mX3_begin 0 := ⟨k_822, k_33, by decide +kernel, by decide⟩
theorem km_X3_closed : mx_kM yX3_closed mX3_closed 0 := ⟨k_847, k_33, by decide +kernel, by decide⟩
theorem km_X3_addPart : mx_kM yX3_addPart mX3_addPart 1 := ⟨k_839, k_33, by decide +kernel, by decide⟩
theorem km_X4_init : mx_kM yX4_init mX4_init 0 := ⟨k_124, k_34, by decide +kernel, by decide⟩
theorem km_X4_become : mx_kM yX4_become mX4_become 3 := ⟨k_826, k_34, by decide +kernel, by decide⟩
theorem km_X4_orElse : mx_kM yX4_orElse mX4_orElse 1 := ⟨k_851, k_34, by decide +kernel, by decide⟩
theorem km_X5_init : mx_kM yX5_init mX5_init 0 := ⟨k_234, k_37, by decide +kernel, by decide⟩
theorem km_X5_fromPerson : mx_kM yX5_fromPerson mX5_fromPerson 3 := ⟨k_623, k_37, by decide +kernel, by decide⟩
theorem km_X5_between : mx_kM yX5_between mX5_between 5 := ⟨k_537, k_37, by decide +kernel, by decide⟩
theorem km_X5_finds : mx_kM yX5_finds mX5_finds 4 := ⟨k_637, k_37, by decide +kernel, by decide⟩
theorem km_X5_peopleFrom : mx_kM yX5_peopleFrom mX5_peopleFrom 2 := ⟨k_619, k_37, by decide +kernel, by decide⟩
theorem km_X5_peopleTo : mx_kM yX5_peopleTo mX5_peopleTo 2 := ⟨k_738, k_37, by decide +kernel, by decide⟩
theorem km_X5_survey : mx_kM yX5_survey mX5_survey 2 := ⟨k_651, k_37, by decide +kernel, by decide⟩
theorem km_X5_couldGo : mx_kM yX5_couldGo mX5_couldGo 3 := ⟨k_951, k_37, by decide +kernel, by decide⟩
theorem km_X5_run : mx_kM yX5_run mX5_run 5 := ⟨k_541, k_37, by decide +kernel, by decide⟩
theorem km_X5_reset : mx_kM yX5_reset mX5_reset 1 := ⟨k_545, k_37, by decide +kernel, by decide⟩
theorem km_X5_settle : mx_kM yX5_settle mX5_settle 4 := ⟨k_561, k_37, by decide +kernel, by decide⟩
theorem km_X5_isBlocked : mx_kM yX5_isBlocked mX5_isBlocked 1 := ⟨k_573, k_37, by decide +kernel, by decide⟩
theorem km_X6_init : mx_kM yX6_init mX6_init 1 := ⟨k_161, k_35, by decide +kernel, by decide⟩
theorem km_X6_clear : mx_kM yX6_clear mX6_clear 1 := ⟨k_690, k_35, by decide +kernel, by decide⟩
theorem km_X6_copyFrom : mx_kM yX6_copyFrom mX6_copyFrom 1 := ⟨k_451, k_35, by decide +kernel, by decide⟩
theorem km_X6_hasPerson : mx_kM yX6_hasPerson mX6_hasPerson 1 := ⟨k_472, k_35, by decide +kernel, by decide⟩
theorem km_X6_hasPeople : mx_kM yX6_hasPeople mX6_hasPeople 2 := ⟨k_468, k_35, by decide +kernel, by decide⟩
theorem km_X6_hasStep : mx_kM yX6_hasStep mX6_hasStep 1 := ⟨k_494, k_35, by decide +kernel, by decide⟩
theorem km_X6_faultOfAdding : mx_kM yX6_faultOfAdding mX6_faultOfAdding 4 := ⟨k_464, k_35, by decide +kernel, by decide⟩
theorem km_X6_faultOfCosting : mx_kM yX6_faultOfCosting mX6_faultOfCosting 2 := ⟨k_506, k_35, by decide +kernel, by decide⟩
theorem km_X6_faultOfReversing : mx_kM yX6_faultOfReversing mX6_faultOfReversing 1 := ⟨k_515, k_35, by decide +kernel, by decide⟩
theorem km_X6_indexOf : mx_kM yX6_indexOf mX6_indexOf 3 := ⟨k_482, k_35, by decide +kernel, by decide⟩
theorem km_X6_countOf : mx_kM yX6_countOf mX6_countOf 2 := ⟨k_734, k_35, by decide +kernel, by decide⟩
theorem km_X6_costSum : mx_kM yX6_costSum mX6_costSum 0 := ⟨k_714, k_35, by decide +kernel, by decide⟩
theorem km_X6_put : mx_kM yX6_put mX6_put 4 := ⟨k_486, k_35, by decide +kernel, by decide⟩
theorem km_X6_drop : mx_kM yX6_drop mX6_drop 1 := ⟨k_498, k_35, by decide +kernel, by decide⟩
theorem km_X6_reverse : mx_kM yX6_reverse mX6_reverse 1 := ⟨k_519, k_35, by decide +kernel, by decide⟩
theorem km_X6_swapKinds : mx_kM yX6_swapKinds mX6_swapKinds 2 := ⟨k_528, k_35, by decide +kernel, by decide⟩
theorem km_X6_beginOf : mx_kM yX6_beginOf mX6_beginOf 2 := ⟨k_901, k_35, by decide +kernel, by decide⟩
theorem km_X6_endOf : mx_kM yX6_endOf mX6_endOf 2 := ⟨k_905, k_35, by decide +kernel, by decide⟩
theorem km_X6_enter : mx_kM yX6_enter mX6_enter 3 := ⟨k_577, k_35, by decide +kernel, by decide⟩
theorem km_X7_init : mx_kM yX7_init mX7_init 0 := ⟨k_60, k_31, by decide +kernel, by decide⟩
theorem km_X7_patternError : mx_kM yX7_patternError mX7_patternError 0 := ⟨k_808, k_31, by decide +kernel, by decide⟩
theorem km_X7_readGraph : mx_kM yX7_readGraph mX7_readGraph 2 := ⟨k_686, k_31, by decide +kernel, by decide⟩
theorem km_X7_readCharacter : mx_kM yX7_readCharacter mX7_readCharacter 2 := ⟨k_694, k_31, by decide +kernel, by decide⟩
theorem km_X8_init : mx_kM yX8_init mX8_init 0 := ⟨k_240, k_38, by decide +kernel, by decide⟩
theorem km_X8_clear : mx_kM yX8_clear mX8_clear 0 := ⟨k_549, k_38, by decide +kernel, by decide⟩
theorem km_X8_put : mx_kM yX8_put mX8_put 3 := ⟨k_553, k_38, by decide +kernel, by decide⟩
theorem km_X8_draw : mx_kM yX8_draw mX8_draw 2 := ⟨k_557, k_38, by decide +kernel, by decide⟩
theorem km_X9_init : mx_kM yX9_init mX9_init 0 := ⟨k_52, k_30, by decide +kernel, by decide⟩
theorem km_X9_append : mx_kM yX9_append mX9_append 1 := ⟨k_674, k_30, by decide +kernel, by decide⟩
theorem km_X9_clearText : mx_kM yX9_clearText mX9_clearText 0 := ⟨k_1003, k_30, by decide +kernel, by decide⟩
theorem km_X9_errorPosition : mx_kM yX9_errorPosition mX9_errorPosition 1 := ⟨k_993, k_30, by decide +kernel, by decide⟩
theorem km_X9_load : mx_kM yX9_load mX9_load 0 := ⟨k_682, k_30, by decide +kernel, by decide⟩
theorem km_X9_about : mx_kM yX9_about mX9_about 1 := ⟨k_709, k_30, by decide +kernel, by decide⟩
theorem km_X9_step : mx_kM yX9_step mX9_step 2 := ⟨k_722, k_30, by decide +kernel, by decide⟩
theorem km_X9_person : mx_kM yX9_person mX9_person 2 := ⟨k_730, k_30, by decide +kernel, by decide⟩
theorem km_X9_find : mx_kM yX9_find mX9_find 3 := ⟨k_746, k_30, by decide +kernel, by decide⟩
theorem km_X9_patternAt : mx_kM yX9_patternAt mX9_patternAt 1 := ⟨k_754, k_30, by decide +kernel, by decide⟩
theorem km_X9_addPerson : mx_kM yX9_addPerson mX9_addPerson 0 := ⟨k_761, k_30, by decide +kernel, by decide⟩
theorem km_X9_addStep : mx_kM yX9_addStep mX9_addStep 4 := ⟨k_975, k_30, by decide +kernel, by decide⟩
theorem km_X9_removeStep : mx_kM yX9_removeStep mX9_removeStep 1 := ⟨k_776, k_30, by decide +kernel, by decide⟩
theorem km_X9_setCost : mx_kM yX9_setCost mX9_setCost 2 := ⟨k_783, k_30, by decide +kernel, by decide⟩
theorem km_X9_turn : mx_kM yX9_turn mX9_turn 1 := ⟨k_790, k_30, by decide +kernel, by decide⟩
theorem km_X9_exchange : mx_kM yX9_exchange mX9_exchange 2 := ⟨k_797, k_30, by decide +kernel, by decide⟩
theorem km_X9_take : mx_kM yX9_take mX9_take 0 := ⟨k_804, k_30, by decide +kernel, by decide⟩
theorem km_X9_undo : mx_kM yX9_undo mX9_undo 0 := ⟨k_859, k_30, by decide +kernel, by decide⟩
theorem km_X9_cost : mx_kM yX9_cost mX9_cost 2 := ⟨k_870, k_30, by decide +kernel, by decide⟩
theorem km_X9_length : mx_kM yX9_length mX9_length 2 := ⟨k_877, k_30, by decide +kernel, by decide⟩
theorem km_X9_pathAt : mx_kM yX9_pathAt mX9_pathAt 3 := ⟨k_884, k_30, by decide +kernel, by decide⟩
theorem km_X9_paths : mx_kM yX9_paths mX9_paths 3 := ⟨k_917, k_30, by decide +kernel, by decide⟩
theorem km_X9_needed : mx_kM yX9_needed mX9_needed 2 := ⟨k_931, k_30, by decide +kernel, by decide⟩
theorem km_X9_bestNew : mx_kM yX9_bestNew mX9_bestNew 2 := ⟨k_938, k_30, by decide +kernel, by decide⟩
theorem km_X9_follow : mx_kM yX9_follow mX9_follow 3 := ⟨k_984, k_30, by decide +kernel, by decide⟩
theorem km_X9_runScript : mx_kM yX9_runScript mX9_runScript 2 := ⟨k_337, k_30, by decide +kernel, by decide⟩
theorem km_X9_simulate : mx_kM yX9_simulate mX9_simulate 2 := ⟨k_645, k_30, by decide +kernel, by decide⟩
theorem km_X9_save : mx_kM yX9_save mX9_save 1 := ⟨k_958, k_30, by decide +kernel, by decide⟩
theorem km_X9_restore : mx_kM yX9_restore mX9_restore 1 := ⟨k_968, k_30, by decide +kernel, by decide⟩
theorem km_X9_require : mx_kM yX9_require mX9_require 2 := ⟨k_340, k_30, by decide +kernel, by decide⟩
theorem km_X9_refuse : mx_kM yX9_refuse mX9_refuse 1 := ⟨k_343, k_30, by decide +kernel, by decide⟩
theorem km_X9_isKind : mx_kM yX9_isKind mX9_isKind 1 := ⟨k_475, k_30, by decide +kernel, by decide⟩
theorem km_X9_isCost : mx_kM yX9_isCost mX9_isCost 1 := ⟨k_478, k_30, by decide +kernel, by decide⟩
theorem km_X9_isSlot : mx_kM yX9_isSlot mX9_isSlot 1 := ⟨k_961, k_30, by decide +kernel, by decide⟩
theorem km_X9_without : mx_kM yX9_without mX9_without 2 := ⟨k_446, k_30, by decide +kernel, by decide⟩
theorem km_X9_countFitting : mx_kM yX9_countFitting mX9_countFitting 5 := ⟨k_920, k_30, by decide +kernel, by decide⟩
theorem km_X9_isNew : mx_kM yX9_isNew mX9_isNew 1 := ⟨k_943, k_30, by decide +kernel, by decide⟩
theorem km_X9_costWith : mx_kM yX9_costWith mX9_costWith 4 := ⟨k_947, k_30, by decide +kernel, by decide⟩
theorem km_X9_succeeds : mx_kM yX9_succeeds mX9_succeeds 1 := ⟨k_456, k_30, by decide +kernel, by decide⟩
theorem km_X9_adds : mx_kM yX9_adds mX9_adds 4 := ⟨k_460, k_30, by decide +kernel, by decide⟩
theorem km_X9_removes : mx_kM yX9_removes mX9_removes 1 := ⟨k_490, k_30, by decide +kernel, by decide⟩
theorem km_X9_setsCost : mx_kM yX9_setsCost mX9_setsCost 2 := ⟨k_502, k_30, by decide +kernel, by decide⟩
theorem km_X9_turns : mx_kM yX9_turns mX9_turns 1 := ⟨k_511, k_30, by decide +kernel, by decide⟩
theorem km_X9_exchanges : mx_kM yX9_exchanges mX9_exchanges 2 := ⟨k_523, k_30, by decide +kernel, by decide⟩
theorem km_X9_costsAtMost : mx_kM yX9_costsAtMost mX9_costsAtMost 3 := ⟨k_532, k_30, by decide +kernel, by decide⟩
theorem km_X9_goesAtMost : mx_kM yX9_goesAtMost mX9_goesAtMost 3 := ⟨k_581, k_30, by decide +kernel, by decide⟩
theorem km_X9_reachesAtLeast : mx_kM yX9_reachesAtLeast mX9_reachesAtLeast 2 := ⟨k_614, k_30, by decide +kernel, by decide⟩
theorem km_X9_needsStep : mx_kM yX9_needsStep mX9_needsStep 3 := ⟨k_633, k_30, by decide +kernel, by decide⟩
theorem km_J6_bitCount_0f7a4 : mx_kM yJ6_bitCount_0f7a4 mJ6_bitCount_0f7a4 1 := ⟨k_626, k_47, by decide +kernel, by decide⟩
theorem km_L_tryScript : mx_kM yL_tryScript mL_tryScript 3 := ⟨k_332, k_29, by decide +kernel, by decide⟩
theorem km_L_trySimulate : mx_kM yL_trySimulate mL_trySimulate 3 := ⟨k_641, k_29, by decide +kernel, by decide⟩
theorem km_L_tryBuild : mx_kM yL_tryBuild mL_tryBuild 5 := ⟨k_971, k_29, by decide +kernel, by decide⟩
theorem km_L_tryFollow : mx_kM yL_tryFollow mL_tryFollow 4 := ⟨k_980, k_29, by decide +kernel, by decide⟩
theorem km_L_tryAppend : mx_kM yL_tryAppend mL_tryAppend 2 := ⟨k_669, k_29, by decide +kernel, by decide⟩
theorem km_L_tryLoad : mx_kM yL_tryLoad mL_tryLoad 1 := ⟨k_678, k_29, by decide +kernel, by decide⟩
theorem km_L_tryAbout : mx_kM yL_tryAbout mL_tryAbout 2 := ⟨k_705, k_29, by decide +kernel, by decide⟩
theorem km_L_tryStep : mx_kM yL_tryStep mL_tryStep 3 := ⟨k_717, k_29, by decide +kernel, by decide⟩
theorem km_L_tryPerson : mx_kM yL_tryPerson mL_tryPerson 3 := ⟨k_726, k_29, by decide +kernel, by decide⟩
theorem km_L_tryFind : mx_kM yL_tryFind mL_tryFind 4 := ⟨k_742, k_29, by decide +kernel, by decide⟩
theorem km_L_trySign : mx_kM yL_trySign mL_trySign 2 := ⟨k_750, k_29, by decide +kernel, by decide⟩
theorem km_L_tryPerson2 : mx_kM yL_tryPerson2 mL_tryPerson2 1 := ⟨k_757, k_29, by decide +kernel, by decide⟩
theorem km_L_tryCut : mx_kM yL_tryCut mL_tryCut 2 := ⟨k_772, k_29, by decide +kernel, by decide⟩
theorem km_L_tryPrice : mx_kM yL_tryPrice mL_tryPrice 3 := ⟨k_779, k_29, by decide +kernel, by decide⟩
theorem km_L_tryTurn : mx_kM yL_tryTurn mL_tryTurn 2 := ⟨k_786, k_29, by decide +kernel, by decide⟩
theorem km_L_trySwap : mx_kM yL_trySwap mL_trySwap 3 := ⟨k_793, k_29, by decide +kernel, by decide⟩
theorem km_L_tryTake : mx_kM yL_tryTake mL_tryTake 1 := ⟨k_800, k_29, by decide +kernel, by decide⟩
theorem km_L_tryUndo : mx_kM yL_tryUndo mL_tryUndo 1 := ⟨k_855, k_29, by decide +kernel, by decide⟩
theorem km_L_tryCost : mx_kM yL_tryCost mL_tryCost 3 := ⟨k_866, k_29, by decide +kernel, by decide⟩
theorem km_L_tryLong : mx_kM yL_tryLong mL_tryLong 3 := ⟨k_873, k_29, by decide +kernel, by decide⟩
theorem km_L_tryPath : mx_kM yL_tryPath mL_tryPath 4 := ⟨k_880, k_29, by decide +kernel, by decide⟩
theorem km_L_tryPaths : mx_kM yL_tryPaths mL_tryPaths 4 := ⟨k_913, k_29, by decide +kernel, by decide⟩
theorem km_L_tryNeeded : mx_kM yL_tryNeeded mL_tryNeeded 3 := ⟨k_927, k_29, by decide +kernel, by decide⟩
theorem km_L_tryNew : mx_kM yL_tryNew mL_tryNew 3 := ⟨k_934, k_29, by decide +kernel, by decide⟩
theorem km_L_tryKeep : mx_kM yL_tryKeep mL_tryKeep 2 := ⟨k_954, k_29, by decide +kernel, by decide⟩
theorem km_L_tryBack : mx_kM yL_tryBack mL_tryBack 2 := ⟨k_964, k_29, by decide +kernel, by decide⟩
theorem km_L_call : mx_kM yL_call mL_call 5 := ⟨k_666, k_29, by decide +kernel, by decide⟩
theorem km_L_cell : mx_kM yL_cell mL_cell 2 := ⟨k_658, k_29, by decide +kernel, by decide⟩
theorem km_L_refuses : mx_kM yL_refuses mL_refuses 2 := ⟨k_663, k_29, by decide +kernel, by decide⟩
theorem km_L_alike : mx_kM yL_alike mL_alike 3 := ⟨k_989, k_29, by decide +kernel, by decide⟩
theorem km_L_holds : mx_kM yL_holds mL_holds 2 := ⟨k_996, k_29, by decide +kernel, by decide⟩
theorem km_L_act : mx_kM yL_act mL_act 3 := ⟨k_999, k_29, by decide +kernel, by decide⟩
theorem k_oi : Cond.instanceMethod objectInit ∈ mx_AW := mx_in 54 (by decide +kernel) (by decide +kernel)
theorem k_oc : Cond.code objectInit ⟨#[0xb1]⟩ 1 none ∈ mx_AW := mx_in 55 (by decide +kernel) (by decide +kernel)
theorem k_ac_int : Cond.arrayClass .int ∈ mx_AW := mx_in 112 (by decide +kernel) (by decide +kernel)
theorem k_ac_char : Cond.arrayClass .char ∈ mx_AW := mx_in 73 (by decide +kernel) (by decide +kernel)
theorem k_ac_boolean : Cond.arrayClass .boolean ∈ mx_AW := mx_in 246 (by decide +kernel) (by decide +kernel)
