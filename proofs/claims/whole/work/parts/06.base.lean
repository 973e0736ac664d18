/-! numbers: ints as nI of a natural number -/
theorem nI_mul (a b : Nat) : nI a * nI b = nI (a * b) := (Int32.ofNat_mul a b).symm
theorem nI_sub {a b : Nat} (h : b ≤ a) : nI a - nI b = nI (a - b) := by
  have : nI a = nI (a - b) + nI b := by rw [nI_add, Nat.sub_add_cancel h]
  rw [this, Int32.add_sub_cancel]
theorem nI_div {a b : Nat} (ha : a < 2 ^ 31) (hb : b < 2 ^ 31) : nI a / nI b = nI (a / b) := by
  apply Int32.toInt_inj.mp
  have hab : a / b ≤ a := Nat.div_le_self a b
  rw [nI_toInt (by omega), Int32.toInt_div, nI_toInt ha, nI_toInt hb]
  have h1 : ((a : Int).tdiv (b : Int)) = ((a / b : Nat) : Int) := by simp
  rw [h1]
  generalize a / b = q at hab
  rw [Int.bmod_eq_of_le] <;> omega
theorem nI_rem {a b : Nat} (ha : a < 2 ^ 31) (hb : b < 2 ^ 31) : nI a - nI a / nI b * nI b = nI (a % b) := by
  rw [nI_div ha hb, nI_mul, nI_sub (Nat.div_mul_le_self a b)]
  congr 1
  have := Nat.div_add_mod a b
  rw [Nat.mul_comm] at this
  omega
theorem nI_or (a b : Nat) : nI a ||| nI b = nI (a ||| b) := by
  apply Int32.toBitVec_inj.mp
  rw [Int32.toBitVec_or]
  show BitVec.ofNat 32 a ||| BitVec.ofNat 32 b = BitVec.ofNat 32 (a ||| b)
  exact (BitVec.ofNat_or).symm
theorem nI_and (a b : Nat) : nI a &&& nI b = nI (a &&& b) := by
  apply Int32.toBitVec_inj.mp
  rw [Int32.toBitVec_and]
  show BitVec.ofNat 32 a &&& BitVec.ofNat 32 b = BitVec.ofNat 32 (a &&& b)
  exact (BitVec.ofNat_and).symm
theorem nI_xor (a b : Nat) : nI a ^^^ nI b = nI (a ^^^ b) := by
  apply Int32.toBitVec_inj.mp
  rw [Int32.toBitVec_xor]
  show BitVec.ofNat 32 a ^^^ BitVec.ofNat 32 b = BitVec.ofNat 32 (a ^^^ b)
  exact (BitVec.ofNat_xor).symm
theorem nI_shl1 : ∀ k, k < 32 → nI 1 <<< (nI k &&& 31) = nI (2 ^ k) := by decide +kernel
theorem nI_31 : ∀ k, k < 32 → (nI k &&& 31) = nI k := by decide +kernel
theorem nI_sm : ∀ k, k < 32 → ((nI k).toBitVec.smod 32).toNat = k := by decide +kernel
theorem nI_shr {a k : Nat} (ha : a < 2 ^ 31) (hk : k < 32) : nI a >>> (nI k &&& 31) = nI (a >>> k) := by
  apply Int32.toBitVec_inj.mp
  rw [nI_31 k hk, Int32.toBitVec_shiftRight]
  apply BitVec.eq_of_toNat_eq
  have h1 : (nI a).toBitVec = BitVec.ofNat 32 a := rfl
  have h2 : (BitVec.ofNat 32 a).msb = false := by
    rw [BitVec.msb_eq_decide, BitVec.toNat_ofNat, Nat.mod_eq_of_lt (by omega)]
    simp; omega
  show ((nI a).toBitVec.sshiftRight' ((nI k).toBitVec.smod 32)).toNat = (BitVec.ofNat 32 (a >>> k)).toNat
  rw [BitVec.sshiftRight', nI_sm k hk, h1, BitVec.sshiftRight_eq_of_msb_false h2, BitVec.toNat_ushiftRight, BitVec.toNat_ofNat, BitVec.toNat_ofNat, Nat.mod_eq_of_lt (show a < 2 ^ 32 by omega), Nat.mod_eq_of_lt]
  have : a >>> k ≤ a := by rw [Nat.shiftRight_eq_div_pow]; exact Nat.div_le_self _ _
  omega
theorem nI_bit {a k : Nat} : (a >>> k) &&& 1 = if a.testBit k then 1 else 0 := by
  rw [Nat.testBit, Nat.and_comm]
  rcases Nat.and_one_is_mod (a >>> k) ▸ Nat.mod_two_eq_zero_or_one (a >>> k) with h | h <;> (rw [Nat.and_comm] at h; simp [h])
/-- of a those that aren't of b -/
def mx_wo (a b : Nat) : Nat := a ^^^ (a &&& b)
theorem mx_wo_bit (a b i : Nat) : (mx_wo a b).testBit i = (a.testBit i && !b.testBit i) := by
  unfold mx_wo
  rw [Nat.testBit_xor, Nat.testBit_and]
  cases a.testBit i <;> cases b.testBit i <;> rfl
theorem nI_wo (a b : Nat) : nI a &&& (nI b ^^^ (-1)) = nI (mx_wo a b) := by
  unfold mx_wo
  rw [← nI_xor, ← nI_and]
  apply b_ext
  intro i hi
  rw [b_and, b_xor, b_xor, b_and, b_m1 i hi]
  cases bt (nI a) i <;> cases bt (nI b) i <;> rfl
/-- a truth value as the machine has it -/
def mx_b (b : Bool) : Int32 := cond b (nI 1) (nI 0)
theorem mx_bT {c : Prop} [Decidable c] (h : c) : nI 1 = mx_b (decide c) := by rw [decide_eq_true h]; rfl
theorem mx_bF {c : Prop} [Decidable c] (h : ¬ c) : nI 0 = mx_b (decide c) := by rw [decide_eq_false h]; rfl
theorem mx_b0 (b : Bool) : mx_b b = 0 ↔ b = false := by cases b <;> decide
theorem mx_b_nz (b : Bool) : narrow .boolean (.int (mx_b b)) = .int (mx_b b) := by cases b <;> decide
theorem mx_b_fit (b : Bool) : fits .boolean (.int (mx_b b)) = true := by cases b <;> decide
/-- a range: x is one of 0 .. n - 1 -/
theorem mx_rng {x : Int32} {n : Nat} (hn : n < 2 ^ 31) : (0 ≤ x ∧ x < nI n) ↔ ∃ j, j < n ∧ x = nI j := by
  constructor
  · rintro ⟨h1, h2⟩
    obtain ⟨j, hj, rfl⟩ := nI_of (x := x) (by rw [Int32.not_lt]; exact h1)
    exact ⟨j, (nI_ltI hj hn).mp h2, rfl⟩
  · rintro ⟨j, hj, rfl⟩
    exact ⟨by rw [← Int32.not_lt]; exact nI_pos (by omega), (nI_ltI (by omega) hn).mpr hj⟩
theorem mx_bit (a k : Nat) : nI ((a >>> k) &&& 1) = mx_b (decide (a.testBit k = true)) := by
  rw [nI_bit]
  cases a.testBit k <;> rfl
theorem mx_shr_lt {a k : Nat} (h : a < 2 ^ 31) : a >>> k < 2 ^ 31 := by
  have : a >>> k ≤ a := by rw [Nat.shiftRight_eq_div_pow]; exact Nat.div_le_self _ _
  omega
theorem mx_shr0 {a k i : Nat} (h : a >>> k = 0) (hi : k ≤ i) : a.testBit i = false := by
  have h1 : (a >>> k).testBit (i - k) = a.testBit i := by rw [Nat.testBit_shiftRight]; congr 1; omega
  rw [← h1, h, Nat.zero_testBit]
theorem mx_or_lt {a b n : Nat} (ha : a < 2 ^ n) (hb : b < 2 ^ n) : a ||| b < 2 ^ n := Nat.or_lt_two_pow ha hb
theorem mx_and_lt {a b n : Nat} (ha : a < 2 ^ n) : a &&& b < 2 ^ n := Nat.lt_of_le_of_lt Nat.and_le_left ha
theorem mx_nat {x : Int32} {n : Nat} (h : 0 ≤ x.toInt ∧ x.toInt < (n : Int)) : ∃ j, j < n ∧ j < 2 ^ 31 ∧ x = nI j := by
  have hx := Int32.toInt_lt x
  exact ⟨x.toInt.toNat, by omega, by omega, Int32.toInt_inj.mp (by rw [nI_toInt (by omega)]; omega)⟩
def mx_le : List (Option Value) → List (Option Value) → Prop
  | [], _ => True
  | none :: r, _ :: t => mx_le r t
  | some v :: r, w :: t => w = some v ∧ mx_le r t
  | _ :: _, [] => False
theorem mx_le_at : ∀ (a b : List (Option Value)), mx_le a b → ∀ (i : Nat) (v : Value), a[i]? = some (some v) → b[i]? = some (some v)
  | [], _, _, i, v, h => by simp at h
  | none :: r, w :: t, q, 0, v, h => by simp at h
  | none :: r, w :: t, q, i + 1, v, h => by simpa using mx_le_at r t q i v (by simpa using h)
  | some u :: r, w :: t, q, 0, v, h => by
    have h1 : u = v := by simpa using h
    have h2 : w = some u := q.1
    simp [h2, h1]
  | some u :: r, w :: t, q, i + 1, v, h => by simpa using mx_le_at r t q.2 i v (by simpa using h)
  | none :: r, [], q, i, v, h => False.elim q
  | some u :: r, [], q, i, v, h => False.elim q
theorem mx_leS {M : mx_MI} {S : mx_Sc} {d bc bs pc : Nat} {ls ls' : List (Option Value)} {st : List Value} {G : mx_G} {I : mx_I} {Q : Option Value → mx_G → mx_I → Prop} {X : String → mx_G → mx_I → Prop} (h : mx_le ls' ls) (k : mx_V M S d bc bs pc ls' st G I Q X) : mx_V M S d bc bs pc ls st G I Q X := mx_sub (mx_le_at ls' ls h) k
theorem mx_sub2 {M : mx_MI} {S : mx_Sc} {d bc bs pc : Nat} {ls ls' : List (Option Value)} {st : List Value} {G : mx_G} {I : mx_I} {Q : Option Value → mx_G → mx_I → Prop} {X : String → mx_G → mx_I → Prop} (h : ∀ i, i < ls'.length → ls'[i]? = some none ∨ ls'[i]? = ls[i]?) (k : mx_V M S d bc bs pc ls' st G I Q X) : mx_V M S d bc bs pc ls st G I Q X := by
  refine mx_sub (fun i v q => ?_) k
  have hl : i < ls'.length := (List.getElem?_eq_some_iff.mp q).1
  rcases h i hl with e | e
  · rw [e] at q; cases q
  · rw [← e]; exact q
section MXB
variable {M : mx_MI} {S : mx_Sc} {d bc bs pc : Nat} {ls : List (Option Value)} {st : List Value} {G : mx_G} {I : mx_I} {Q : Option Value → mx_G → mx_I → Prop} {X : String → mx_G → mx_I → Prop}
theorem mx_top {x y : Int32} (h : x = y) (k : mx_V M S d bc bs pc ls (.int y :: st) G I Q X) : mx_V M S d bc bs pc ls (.int x :: st) G I Q X := h ▸ k
theorem mx_topl {x y : Int64} (h : x = y) (k : mx_V M S d bc bs pc ls (.long y :: st) G I Q X) : mx_V M S d bc bs pc ls (.long x :: st) G I Q X := h ▸ k
theorem mx_iaddN {a b : Nat} (hd : decode (mx_cc M) pc = .ok (.iadd, 1)) (k : mx_V M S d bc bs (pc + 1) ls (.int (nI (a + b)) :: st) G I Q X) : mx_V M S d bc bs pc ls (.int (nI b) :: .int (nI a) :: st) G I Q X := mx_iadd hd (mx_top (nI_add a b) k)
theorem mx_imulN {a b : Nat} (hd : decode (mx_cc M) pc = .ok (.imul, 1)) (k : mx_V M S d bc bs (pc + 1) ls (.int (nI (a * b)) :: st) G I Q X) : mx_V M S d bc bs pc ls (.int (nI b) :: .int (nI a) :: st) G I Q X := mx_imul hd (mx_top (nI_mul a b) k)
theorem mx_isubN {a b : Nat} (hd : decode (mx_cc M) pc = .ok (.isub, 1)) (h : b ≤ a) (k : mx_V M S d bc bs (pc + 1) ls (.int (nI (a - b)) :: st) G I Q X) : mx_V M S d bc bs pc ls (.int (nI b) :: .int (nI a) :: st) G I Q X := mx_isub hd (mx_top (nI_sub h) k)
theorem mx_idivN {a b : Nat} (hd : decode (mx_cc M) pc = .ok (.idiv, 1)) (ha : a < 2 ^ 31) (hb : 0 < b ∧ b < 2 ^ 31) (k : mx_V M S d bc bs (pc + 1) ls (.int (nI (a / b)) :: st) G I Q X) : mx_V M S d bc bs pc ls (.int (nI b) :: .int (nI a) :: st) G I Q X := mx_idiv (fun q => by rw [← nI_0, nI_eq hb.2 (by decide)] at q; omega) hd (mx_top (nI_div ha hb.2) k)
theorem mx_iremN {a b : Nat} (hd : decode (mx_cc M) pc = .ok (.irem, 1)) (ha : a < 2 ^ 31) (hb : 0 < b ∧ b < 2 ^ 31) (k : mx_V M S d bc bs (pc + 1) ls (.int (nI (a % b)) :: st) G I Q X) : mx_V M S d bc bs pc ls (.int (nI b) :: .int (nI a) :: st) G I Q X := mx_irem (fun q => by rw [← nI_0, nI_eq hb.2 (by decide)] at q; omega) hd (mx_top (nI_rem ha hb.2) k)
theorem mx_iandN {a b : Nat} (hd : decode (mx_cc M) pc = .ok (.iand, 1)) (k : mx_V M S d bc bs (pc + 1) ls (.int (nI (a &&& b)) :: st) G I Q X) : mx_V M S d bc bs pc ls (.int (nI b) :: .int (nI a) :: st) G I Q X := mx_iand hd (mx_top (nI_and a b) k)
theorem mx_iorN {a b : Nat} (hd : decode (mx_cc M) pc = .ok (.ior, 1)) (k : mx_V M S d bc bs (pc + 1) ls (.int (nI (a ||| b)) :: st) G I Q X) : mx_V M S d bc bs pc ls (.int (nI b) :: .int (nI a) :: st) G I Q X := mx_ior hd (mx_top (nI_or a b) k)
theorem mx_ishl1N {b : Nat} (hd : decode (mx_cc M) pc = .ok (.ishl, 1)) (hb : b < 32) (k : mx_V M S d bc bs (pc + 1) ls (.int (nI (2 ^ b)) :: st) G I Q X) : mx_V M S d bc bs pc ls (.int (nI b) :: .int (nI 1) :: st) G I Q X := mx_ishl hd (mx_top (nI_shl1 b hb) k)
theorem mx_ishrN {a b : Nat} (hd : decode (mx_cc M) pc = .ok (.ishr, 1)) (ha : a < 2 ^ 31) (hb : b < 32) (k : mx_V M S d bc bs (pc + 1) ls (.int (nI (a >>> b)) :: st) G I Q X) : mx_V M S d bc bs pc ls (.int (nI b) :: .int (nI a) :: st) G I Q X := mx_ishr hd (mx_top (nI_shr ha hb) k)
theorem mx_iconstN {n : Int} (a : Nat) (hd : decode (mx_cc M) pc = .ok (.iconst n, 1)) (hv : Int32.ofInt n = nI a) (k : mx_V M S d bc bs (pc + 1) ls (.int (nI a) :: st) G I Q X) : mx_V M S d bc bs pc ls st G I Q X := mx_iconst hv hd k
theorem mx_bipushN {n : Int} (a : Nat) (hd : decode (mx_cc M) pc = .ok (.bipush n, 2)) (hv : (Int8.ofInt n).toInt32 = nI a) (k : mx_V M S d bc bs (pc + 2) ls (.int (nI a) :: st) G I Q X) : mx_V M S d bc bs pc ls st G I Q X := mx_bipush hv hd k
theorem mx_sipushN {n : Int} (a : Nat) (hd : decode (mx_cc M) pc = .ok (.sipush n, 3)) (hv : (Int16.ofInt n).toInt32 = nI a) (k : mx_V M S d bc bs (pc + 3) ls (.int (nI a) :: st) G I Q X) : mx_V M S d bc bs pc ls st G I Q X := mx_sipush hv hd k
theorem mx_iincN {i : Nat} {n : Int} {x : Nat} (m : Nat) (hd : decode (mx_cc M) pc = .ok (.iinc i n, 3)) (hl : ls[i]? = some (some (.int (nI x)))) (hv : Int32.ofInt n = nI m) (hn : i < mx_mL M) (hok : mx_ok ls i = true) (k : mx_V M S d bc bs (pc + 3) (ls.set i (some (.int (nI (x + m))))) st G I Q X) : mx_V M S d bc bs pc ls st G I Q X := mx_iinc hd hl (by rw [hv, nI_add]) hn hok k
theorem mx_cmpN_eq {a b : Nat} {off : Int} (tgt : Nat) (hd : decode (mx_cc M) pc = .ok (.if_icmp .eq off, 3)) (ht : (pc : Int) + off = (tgt : Int)) (ha : a < 2 ^ 31) (hb : b < 2 ^ 31) (kt : a = b → mx_V M S d bc bs tgt ls st G I Q X) (kf : ¬ a = b → mx_V M S d bc bs (pc + 3) ls st G I Q X) : mx_V M S d bc bs pc ls (.int (nI b) :: .int (nI a) :: st) G I Q X := mx_icmp_eq hd ht (fun q => kt ((nI_eq ha hb).mp q)) (fun q => kf (fun e => q ((nI_eq ha hb).mpr e)))
theorem mx_cmpN_ne {a b : Nat} {off : Int} (tgt : Nat) (hd : decode (mx_cc M) pc = .ok (.if_icmp .ne off, 3)) (ht : (pc : Int) + off = (tgt : Int)) (ha : a < 2 ^ 31) (hb : b < 2 ^ 31) (kt : ¬ a = b → mx_V M S d bc bs tgt ls st G I Q X) (kf : a = b → mx_V M S d bc bs (pc + 3) ls st G I Q X) : mx_V M S d bc bs pc ls (.int (nI b) :: .int (nI a) :: st) G I Q X := mx_icmp_ne hd ht (fun q => kt (fun e => q ((nI_eq ha hb).mpr e))) (fun q => kf ((nI_eq ha hb).mp q))
theorem mx_cmpN_lt {a b : Nat} {off : Int} (tgt : Nat) (hd : decode (mx_cc M) pc = .ok (.if_icmp .lt off, 3)) (ht : (pc : Int) + off = (tgt : Int)) (ha : a < 2 ^ 31) (hb : b < 2 ^ 31) (kt : a < b → mx_V M S d bc bs tgt ls st G I Q X) (kf : ¬ a < b → mx_V M S d bc bs (pc + 3) ls st G I Q X) : mx_V M S d bc bs pc ls (.int (nI b) :: .int (nI a) :: st) G I Q X := mx_icmp_lt hd ht (fun q => kt ((nI_ltI ha hb).mp q)) (fun q => kf (fun e => q ((nI_ltI ha hb).mpr e)))
theorem mx_cmpN_ge {a b : Nat} {off : Int} (tgt : Nat) (hd : decode (mx_cc M) pc = .ok (.if_icmp .ge off, 3)) (ht : (pc : Int) + off = (tgt : Int)) (ha : a < 2 ^ 31) (hb : b < 2 ^ 31) (kt : b ≤ a → mx_V M S d bc bs tgt ls st G I Q X) (kf : ¬ b ≤ a → mx_V M S d bc bs (pc + 3) ls st G I Q X) : mx_V M S d bc bs pc ls (.int (nI b) :: .int (nI a) :: st) G I Q X := mx_icmp_ge hd ht (fun q => kt ((nI_leI hb ha).mp q)) (fun q => kf (fun e => q ((nI_leI hb ha).mpr e)))
theorem mx_cmpN_gt {a b : Nat} {off : Int} (tgt : Nat) (hd : decode (mx_cc M) pc = .ok (.if_icmp .gt off, 3)) (ht : (pc : Int) + off = (tgt : Int)) (ha : a < 2 ^ 31) (hb : b < 2 ^ 31) (kt : b < a → mx_V M S d bc bs tgt ls st G I Q X) (kf : ¬ b < a → mx_V M S d bc bs (pc + 3) ls st G I Q X) : mx_V M S d bc bs pc ls (.int (nI b) :: .int (nI a) :: st) G I Q X := mx_icmp_gt hd ht (fun q => kt ((nI_ltI hb ha).mp q)) (fun q => kf (fun e => q ((nI_ltI hb ha).mpr e)))
theorem mx_cmpN_le {a b : Nat} {off : Int} (tgt : Nat) (hd : decode (mx_cc M) pc = .ok (.if_icmp .le off, 3)) (ht : (pc : Int) + off = (tgt : Int)) (ha : a < 2 ^ 31) (hb : b < 2 ^ 31) (kt : a ≤ b → mx_V M S d bc bs tgt ls st G I Q X) (kf : ¬ a ≤ b → mx_V M S d bc bs (pc + 3) ls st G I Q X) : mx_V M S d bc bs pc ls (.int (nI b) :: .int (nI a) :: st) G I Q X := mx_icmp_le hd ht (fun q => kt ((nI_leI ha hb).mp q)) (fun q => kf (fun e => q ((nI_leI ha hb).mpr e)))
theorem mx_ifN_eq {a : Nat} {off : Int} (tgt : Nat) (hd : decode (mx_cc M) pc = .ok (.ifCond .eq off, 3)) (ht : (pc : Int) + off = (tgt : Int)) (ha : a < 2 ^ 31) (kt : a = 0 → mx_V M S d bc bs tgt ls st G I Q X) (kf : ¬ a = 0 → mx_V M S d bc bs (pc + 3) ls st G I Q X) : mx_V M S d bc bs pc ls (.int (nI a) :: st) G I Q X := mx_if_eq hd ht (fun q => kt (by rw [← nI_0, nI_eq ha (by decide)] at q; exact q)) (fun q => kf (fun e => q (by rw [e, nI_0])))
theorem mx_ifN_ne {a : Nat} {off : Int} (tgt : Nat) (hd : decode (mx_cc M) pc = .ok (.ifCond .ne off, 3)) (ht : (pc : Int) + off = (tgt : Int)) (ha : a < 2 ^ 31) (kt : ¬ a = 0 → mx_V M S d bc bs tgt ls st G I Q X) (kf : a = 0 → mx_V M S d bc bs (pc + 3) ls st G I Q X) : mx_V M S d bc bs pc ls (.int (nI a) :: st) G I Q X := mx_if_ne hd ht (fun q => kt (fun e => q (by rw [e, nI_0]))) (fun q => kf (by rw [← nI_0, nI_eq ha (by decide)] at q; exact q))
theorem mx_ifB_eq {c : Prop} [Decidable c] {off : Int} (tgt : Nat) (hd : decode (mx_cc M) pc = .ok (.ifCond .eq off, 3)) (ht : (pc : Int) + off = (tgt : Int)) (kt : ¬ c → mx_V M S d bc bs tgt ls st G I Q X) (kf : c → mx_V M S d bc bs (pc + 3) ls st G I Q X) : mx_V M S d bc bs pc ls (.int (mx_b (decide c)) :: st) G I Q X := mx_if_eq hd ht (fun q => kt (by rw [mx_b0] at q; exact of_decide_eq_false q)) (fun q => kf (by rw [mx_b0] at q; exact of_decide_eq_true (by simpa using q)))
theorem mx_ifB_ne {c : Prop} [Decidable c] {off : Int} (tgt : Nat) (hd : decode (mx_cc M) pc = .ok (.ifCond .ne off, 3)) (ht : (pc : Int) + off = (tgt : Int)) (kt : c → mx_V M S d bc bs tgt ls st G I Q X) (kf : ¬ c → mx_V M S d bc bs (pc + 3) ls st G I Q X) : mx_V M S d bc bs pc ls (.int (mx_b (decide c)) :: st) G I Q X := mx_if_ne hd ht (fun q => kt (by rw [mx_b0] at q; exact of_decide_eq_true (by simpa using q))) (fun q => kf (by rw [mx_b0] at q; exact of_decide_eq_false q))
theorem mx_cmpR_lt {x y : Int32} {off : Int} (tgt : Nat) (hd : decode (mx_cc M) pc = .ok (.if_icmp .lt off, 3)) (ht : (pc : Int) + off = (tgt : Int)) (kt : x.toInt < y.toInt → mx_V M S d bc bs tgt ls st G I Q X) (kf : ¬ (x.toInt < y.toInt) → mx_V M S d bc bs (pc + 3) ls st G I Q X) : mx_V M S d bc bs pc ls (.int y :: .int x :: st) G I Q X := mx_icmp_lt hd ht (fun q => kt (Int32.lt_iff_toInt_lt.mp q)) (fun q => kf (fun e => q (Int32.lt_iff_toInt_lt.mpr e)))
theorem mx_cmpRN_lt {x : Int32} {b : Nat} {off : Int} (tgt : Nat) (hd : decode (mx_cc M) pc = .ok (.if_icmp .lt off, 3)) (ht : (pc : Int) + off = (tgt : Int)) (hb : b < 2 ^ 31) (kt : x.toInt < (b : Int) → mx_V M S d bc bs tgt ls st G I Q X) (kf : ¬ (x.toInt < (b : Int)) → mx_V M S d bc bs (pc + 3) ls st G I Q X) : mx_V M S d bc bs pc ls (.int (nI b) :: .int x :: st) G I Q X := mx_cmpR_lt tgt hd ht (fun q => kt (by rw [nI_toInt hb] at q; exact q)) (fun q => kf (by rw [nI_toInt hb] at q; exact q))
theorem mx_cmpNR_lt {a : Nat} {y : Int32} {off : Int} (tgt : Nat) (hd : decode (mx_cc M) pc = .ok (.if_icmp .lt off, 3)) (ht : (pc : Int) + off = (tgt : Int)) (ha : a < 2 ^ 31) (kt : (a : Int) < y.toInt → mx_V M S d bc bs tgt ls st G I Q X) (kf : ¬ ((a : Int) < y.toInt) → mx_V M S d bc bs (pc + 3) ls st G I Q X) : mx_V M S d bc bs pc ls (.int y :: .int (nI a) :: st) G I Q X := mx_cmpR_lt tgt hd ht (fun q => kt (by rw [nI_toInt ha] at q; exact q)) (fun q => kf (by rw [nI_toInt ha] at q; exact q))
theorem mx_cmpR_ge {x y : Int32} {off : Int} (tgt : Nat) (hd : decode (mx_cc M) pc = .ok (.if_icmp .ge off, 3)) (ht : (pc : Int) + off = (tgt : Int)) (kt : y.toInt ≤ x.toInt → mx_V M S d bc bs tgt ls st G I Q X) (kf : ¬ (y.toInt ≤ x.toInt) → mx_V M S d bc bs (pc + 3) ls st G I Q X) : mx_V M S d bc bs pc ls (.int y :: .int x :: st) G I Q X := mx_icmp_ge hd ht (fun q => kt (Int32.le_iff_toInt_le.mp q)) (fun q => kf (fun e => q (Int32.le_iff_toInt_le.mpr e)))
theorem mx_cmpRN_ge {x : Int32} {b : Nat} {off : Int} (tgt : Nat) (hd : decode (mx_cc M) pc = .ok (.if_icmp .ge off, 3)) (ht : (pc : Int) + off = (tgt : Int)) (hb : b < 2 ^ 31) (kt : (b : Int) ≤ x.toInt → mx_V M S d bc bs tgt ls st G I Q X) (kf : ¬ ((b : Int) ≤ x.toInt) → mx_V M S d bc bs (pc + 3) ls st G I Q X) : mx_V M S d bc bs pc ls (.int (nI b) :: .int x :: st) G I Q X := mx_cmpR_ge tgt hd ht (fun q => kt (by rw [nI_toInt hb] at q; exact q)) (fun q => kf (by rw [nI_toInt hb] at q; exact q))
theorem mx_cmpNR_ge {a : Nat} {y : Int32} {off : Int} (tgt : Nat) (hd : decode (mx_cc M) pc = .ok (.if_icmp .ge off, 3)) (ht : (pc : Int) + off = (tgt : Int)) (ha : a < 2 ^ 31) (kt : y.toInt ≤ (a : Int) → mx_V M S d bc bs tgt ls st G I Q X) (kf : ¬ (y.toInt ≤ (a : Int)) → mx_V M S d bc bs (pc + 3) ls st G I Q X) : mx_V M S d bc bs pc ls (.int y :: .int (nI a) :: st) G I Q X := mx_cmpR_ge tgt hd ht (fun q => kt (by rw [nI_toInt ha] at q; exact q)) (fun q => kf (by rw [nI_toInt ha] at q; exact q))
theorem mx_cmpR_gt {x y : Int32} {off : Int} (tgt : Nat) (hd : decode (mx_cc M) pc = .ok (.if_icmp .gt off, 3)) (ht : (pc : Int) + off = (tgt : Int)) (kt : y.toInt < x.toInt → mx_V M S d bc bs tgt ls st G I Q X) (kf : ¬ (y.toInt < x.toInt) → mx_V M S d bc bs (pc + 3) ls st G I Q X) : mx_V M S d bc bs pc ls (.int y :: .int x :: st) G I Q X := mx_icmp_gt hd ht (fun q => kt (Int32.lt_iff_toInt_lt.mp q)) (fun q => kf (fun e => q (Int32.lt_iff_toInt_lt.mpr e)))
theorem mx_cmpRN_gt {x : Int32} {b : Nat} {off : Int} (tgt : Nat) (hd : decode (mx_cc M) pc = .ok (.if_icmp .gt off, 3)) (ht : (pc : Int) + off = (tgt : Int)) (hb : b < 2 ^ 31) (kt : (b : Int) < x.toInt → mx_V M S d bc bs tgt ls st G I Q X) (kf : ¬ ((b : Int) < x.toInt) → mx_V M S d bc bs (pc + 3) ls st G I Q X) : mx_V M S d bc bs pc ls (.int (nI b) :: .int x :: st) G I Q X := mx_cmpR_gt tgt hd ht (fun q => kt (by rw [nI_toInt hb] at q; exact q)) (fun q => kf (by rw [nI_toInt hb] at q; exact q))
theorem mx_cmpNR_gt {a : Nat} {y : Int32} {off : Int} (tgt : Nat) (hd : decode (mx_cc M) pc = .ok (.if_icmp .gt off, 3)) (ht : (pc : Int) + off = (tgt : Int)) (ha : a < 2 ^ 31) (kt : y.toInt < (a : Int) → mx_V M S d bc bs tgt ls st G I Q X) (kf : ¬ (y.toInt < (a : Int)) → mx_V M S d bc bs (pc + 3) ls st G I Q X) : mx_V M S d bc bs pc ls (.int y :: .int (nI a) :: st) G I Q X := mx_cmpR_gt tgt hd ht (fun q => kt (by rw [nI_toInt ha] at q; exact q)) (fun q => kf (by rw [nI_toInt ha] at q; exact q))
theorem mx_cmpR_le {x y : Int32} {off : Int} (tgt : Nat) (hd : decode (mx_cc M) pc = .ok (.if_icmp .le off, 3)) (ht : (pc : Int) + off = (tgt : Int)) (kt : x.toInt ≤ y.toInt → mx_V M S d bc bs tgt ls st G I Q X) (kf : ¬ (x.toInt ≤ y.toInt) → mx_V M S d bc bs (pc + 3) ls st G I Q X) : mx_V M S d bc bs pc ls (.int y :: .int x :: st) G I Q X := mx_icmp_le hd ht (fun q => kt (Int32.le_iff_toInt_le.mp q)) (fun q => kf (fun e => q (Int32.le_iff_toInt_le.mpr e)))
theorem mx_cmpRN_le {x : Int32} {b : Nat} {off : Int} (tgt : Nat) (hd : decode (mx_cc M) pc = .ok (.if_icmp .le off, 3)) (ht : (pc : Int) + off = (tgt : Int)) (hb : b < 2 ^ 31) (kt : x.toInt ≤ (b : Int) → mx_V M S d bc bs tgt ls st G I Q X) (kf : ¬ (x.toInt ≤ (b : Int)) → mx_V M S d bc bs (pc + 3) ls st G I Q X) : mx_V M S d bc bs pc ls (.int (nI b) :: .int x :: st) G I Q X := mx_cmpR_le tgt hd ht (fun q => kt (by rw [nI_toInt hb] at q; exact q)) (fun q => kf (by rw [nI_toInt hb] at q; exact q))
theorem mx_cmpNR_le {a : Nat} {y : Int32} {off : Int} (tgt : Nat) (hd : decode (mx_cc M) pc = .ok (.if_icmp .le off, 3)) (ht : (pc : Int) + off = (tgt : Int)) (ha : a < 2 ^ 31) (kt : (a : Int) ≤ y.toInt → mx_V M S d bc bs tgt ls st G I Q X) (kf : ¬ ((a : Int) ≤ y.toInt) → mx_V M S d bc bs (pc + 3) ls st G I Q X) : mx_V M S d bc bs pc ls (.int y :: .int (nI a) :: st) G I Q X := mx_cmpR_le tgt hd ht (fun q => kt (by rw [nI_toInt ha] at q; exact q)) (fun q => kf (by rw [nI_toInt ha] at q; exact q))
theorem mx_ifR_lt {x : Int32} {off : Int} (tgt : Nat) (hd : decode (mx_cc M) pc = .ok (.ifCond .lt off, 3)) (ht : (pc : Int) + off = (tgt : Int)) (kt : x.toInt < 0 → mx_V M S d bc bs tgt ls st G I Q X) (kf : ¬ (x.toInt < 0) → mx_V M S d bc bs (pc + 3) ls st G I Q X) : mx_V M S d bc bs pc ls (.int x :: st) G I Q X := mx_if_lt hd ht (fun q => kt (Int32.lt_iff_toInt_lt.mp q)) (fun q => kf (fun e => q (Int32.lt_iff_toInt_lt.mpr e)))
theorem mx_ifN_lt {a : Nat} {off : Int} (tgt : Nat) (hd : decode (mx_cc M) pc = .ok (.ifCond .lt off, 3)) (ht : (pc : Int) + off = (tgt : Int)) (ha : a < 2 ^ 31) (kt : a < 0 → mx_V M S d bc bs tgt ls st G I Q X) (kf : ¬ (a < 0) → mx_V M S d bc bs (pc + 3) ls st G I Q X) : mx_V M S d bc bs pc ls (.int (nI a) :: st) G I Q X := mx_ifR_lt tgt hd ht (fun q => kt (by rw [nI_toInt ha] at q; omega)) (fun q => kf (by rw [nI_toInt ha] at q; omega))
theorem mx_ifR_ge {x : Int32} {off : Int} (tgt : Nat) (hd : decode (mx_cc M) pc = .ok (.ifCond .ge off, 3)) (ht : (pc : Int) + off = (tgt : Int)) (kt : 0 ≤ x.toInt → mx_V M S d bc bs tgt ls st G I Q X) (kf : ¬ (0 ≤ x.toInt) → mx_V M S d bc bs (pc + 3) ls st G I Q X) : mx_V M S d bc bs pc ls (.int x :: st) G I Q X := mx_if_ge hd ht (fun q => kt (Int32.le_iff_toInt_le.mp q)) (fun q => kf (fun e => q (Int32.le_iff_toInt_le.mpr e)))
theorem mx_ifN_ge {a : Nat} {off : Int} (tgt : Nat) (hd : decode (mx_cc M) pc = .ok (.ifCond .ge off, 3)) (ht : (pc : Int) + off = (tgt : Int)) (ha : a < 2 ^ 31) (kt : 0 ≤ a → mx_V M S d bc bs tgt ls st G I Q X) (kf : ¬ (0 ≤ a) → mx_V M S d bc bs (pc + 3) ls st G I Q X) : mx_V M S d bc bs pc ls (.int (nI a) :: st) G I Q X := mx_ifR_ge tgt hd ht (fun q => kt (by rw [nI_toInt ha] at q; omega)) (fun q => kf (by rw [nI_toInt ha] at q; omega))
theorem mx_ifR_gt {x : Int32} {off : Int} (tgt : Nat) (hd : decode (mx_cc M) pc = .ok (.ifCond .gt off, 3)) (ht : (pc : Int) + off = (tgt : Int)) (kt : 0 < x.toInt → mx_V M S d bc bs tgt ls st G I Q X) (kf : ¬ (0 < x.toInt) → mx_V M S d bc bs (pc + 3) ls st G I Q X) : mx_V M S d bc bs pc ls (.int x :: st) G I Q X := mx_if_gt hd ht (fun q => kt (Int32.lt_iff_toInt_lt.mp q)) (fun q => kf (fun e => q (Int32.lt_iff_toInt_lt.mpr e)))
theorem mx_ifN_gt {a : Nat} {off : Int} (tgt : Nat) (hd : decode (mx_cc M) pc = .ok (.ifCond .gt off, 3)) (ht : (pc : Int) + off = (tgt : Int)) (ha : a < 2 ^ 31) (kt : 0 < a → mx_V M S d bc bs tgt ls st G I Q X) (kf : ¬ (0 < a) → mx_V M S d bc bs (pc + 3) ls st G I Q X) : mx_V M S d bc bs pc ls (.int (nI a) :: st) G I Q X := mx_ifR_gt tgt hd ht (fun q => kt (by rw [nI_toInt ha] at q; omega)) (fun q => kf (by rw [nI_toInt ha] at q; omega))
theorem mx_ifR_le {x : Int32} {off : Int} (tgt : Nat) (hd : decode (mx_cc M) pc = .ok (.ifCond .le off, 3)) (ht : (pc : Int) + off = (tgt : Int)) (kt : x.toInt ≤ 0 → mx_V M S d bc bs tgt ls st G I Q X) (kf : ¬ (x.toInt ≤ 0) → mx_V M S d bc bs (pc + 3) ls st G I Q X) : mx_V M S d bc bs pc ls (.int x :: st) G I Q X := mx_if_le hd ht (fun q => kt (Int32.le_iff_toInt_le.mp q)) (fun q => kf (fun e => q (Int32.le_iff_toInt_le.mpr e)))
theorem mx_ifN_le {a : Nat} {off : Int} (tgt : Nat) (hd : decode (mx_cc M) pc = .ok (.ifCond .le off, 3)) (ht : (pc : Int) + off = (tgt : Int)) (ha : a < 2 ^ 31) (kt : a ≤ 0 → mx_V M S d bc bs tgt ls st G I Q X) (kf : ¬ (a ≤ 0) → mx_V M S d bc bs (pc + 3) ls st G I Q X) : mx_V M S d bc bs pc ls (.int (nI a) :: st) G I Q X := mx_ifR_le tgt hd ht (fun q => kt (by rw [nI_toInt ha] at q; omega)) (fun q => kf (by rw [nI_toInt ha] at q; omega))
theorem mx_istoreE {i : Nat} {x : Int32} {ls' : List (Option Value)}  (hd : decode (mx_cc M) pc = .ok (.istore i, 2)) (hn : i < mx_mL M) (hok : mx_ok ls i = true) (hls : ls.set i (some (.int x)) = ls') (k : mx_V M S d bc bs (pc + 2) ls' st G I Q X) : mx_V M S d bc bs pc ls (.int x :: st) G I Q X := mx_istore  hd hn hok (hls ▸ k)
theorem mx_istoreE_n {i : Nat} {x : Int32} {ls' : List (Option Value)} {j : Fin 4} (hi : (j : Nat) = i) (hd : decode (mx_cc M) pc = .ok (.istore_n j, 1)) (hn : i < mx_mL M) (hok : mx_ok ls i = true) (hls : ls.set i (some (.int x)) = ls') (k : mx_V M S d bc bs (pc + 1) ls' st G I Q X) : mx_V M S d bc bs pc ls (.int x :: st) G I Q X := mx_istore_n hi hd hn hok (hls ▸ k)
theorem mx_astoreE {i : Nat} {x : Nat} {ls' : List (Option Value)}  (hd : decode (mx_cc M) pc = .ok (.astore i, 2)) (hn : i < mx_mL M) (hok : mx_ok ls i = true) (hls : ls.set i (some (.ref x)) = ls') (k : mx_V M S d bc bs (pc + 2) ls' st G I Q X) : mx_V M S d bc bs pc ls (.ref x :: st) G I Q X := mx_astore  hd hn hok (hls ▸ k)
theorem mx_astoreE_n {i : Nat} {x : Nat} {ls' : List (Option Value)} {j : Fin 4} (hi : (j : Nat) = i) (hd : decode (mx_cc M) pc = .ok (.astore_n j, 1)) (hn : i < mx_mL M) (hok : mx_ok ls i = true) (hls : ls.set i (some (.ref x)) = ls') (k : mx_V M S d bc bs (pc + 1) ls' st G I Q X) : mx_V M S d bc bs pc ls (.ref x :: st) G I Q X := mx_astore_n hi hd hn hok (hls ▸ k)
theorem mx_lstoreE {i : Nat} {x : Int64} {ls' : List (Option Value)}  (hd : decode (mx_cc M) pc = .ok (.lstore i, 2)) (hn : i + 1 < mx_mL M) (hok : mx_ok ls i = true) (hls : (ls.set i (some (.long x))).set (i + 1) none = ls') (k : mx_V M S d bc bs (pc + 2) ls' st G I Q X) : mx_V M S d bc bs pc ls (.long x :: st) G I Q X := mx_lstore  hd hn hok (hls ▸ k)
theorem mx_lstoreE_n {i : Nat} {x : Int64} {ls' : List (Option Value)} {j : Fin 4} (hi : (j : Nat) = i) (hd : decode (mx_cc M) pc = .ok (.lstore_n j, 1)) (hn : i + 1 < mx_mL M) (hok : mx_ok ls i = true) (hls : (ls.set i (some (.long x))).set (i + 1) none = ls') (k : mx_V M S d bc bs (pc + 1) ls' st G I Q X) : mx_V M S d bc bs pc ls (.long x :: st) G I Q X := mx_lstore_n hi hd hn hok (hls ▸ k)
theorem mx_iincE {i : Nat} {n : Int} {x : Nat} (m : Nat) {ls' : List (Option Value)} (hd : decode (mx_cc M) pc = .ok (.iinc i n, 3)) (hl : ls[i]? = some (some (.int (nI x)))) (hv : Int32.ofInt n = nI m) (hn : i < mx_mL M) (hok : mx_ok ls i = true) (hls : ls.set i (some (.int (nI (x + m)))) = ls') (k : mx_V M S d bc bs (pc + 3) ls' st G I Q X) : mx_V M S d bc bs pc ls st G I Q X := mx_iincN m hd hl hv hn hok (hls ▸ k)
theorem mx_if0_eq {off : Int} (tgt : Nat) (hd : decode (mx_cc M) pc = .ok (.ifCond .eq off, 3)) (ht : (pc : Int) + off = (tgt : Int)) (k : mx_V M S d bc bs tgt ls st G I Q X) : mx_V M S d bc bs pc ls (.int (nI 0) :: st) G I Q X := mx_ifN_eq tgt hd ht (by decide) (fun _ => k) (fun q => absurd rfl q)
theorem mx_if1_eq {off : Int} (tgt : Nat) (hd : decode (mx_cc M) pc = .ok (.ifCond .eq off, 3)) (ht : (pc : Int) + off = (tgt : Int)) (k : mx_V M S d bc bs (pc + 3) ls st G I Q X) : mx_V M S d bc bs pc ls (.int (nI 1) :: st) G I Q X := mx_ifN_eq tgt hd ht (by decide) (fun q => absurd q (by decide)) (fun _ => k)
theorem mx_if0_ne {off : Int} (tgt : Nat) (hd : decode (mx_cc M) pc = .ok (.ifCond .ne off, 3)) (ht : (pc : Int) + off = (tgt : Int)) (k : mx_V M S d bc bs (pc + 3) ls st G I Q X) : mx_V M S d bc bs pc ls (.int (nI 0) :: st) G I Q X := mx_ifN_ne tgt hd ht (by decide) (fun q => absurd rfl q) (fun _ => k)
theorem mx_if1_ne {off : Int} (tgt : Nat) (hd : decode (mx_cc M) pc = .ok (.ifCond .ne off, 3)) (ht : (pc : Int) + off = (tgt : Int)) (k : mx_V M S d bc bs tgt ls st G I Q X) : mx_V M S d bc bs pc ls (.int (nI 1) :: st) G I Q X := mx_ifN_ne tgt hd ht (by decide) (fun _ => k) (fun q => absurd q (by decide))
theorem mx_getV {idx a ci k : Nat} (v : Int32) (hd : decode (mx_cc M) pc = .ok (.getfield idx, 3)) (hlk : Cond.fieldLink (mx_own M) idx (mx_F ci k).1 (mx_F ci k).2.1 (mx_F ci k).2.2.1 ∈ mx_AW) (hk : k < mx_N ci) (hr : mx_isR ci k = false) (ht : mx_tg G a = ci + 10) (e : I a k = v) (kk : mx_V M S d bc bs (pc + 3) ls (.int v :: st) G I Q X) : mx_V M S d bc bs pc ls (.ref a :: st) G I Q X := mx_getI hd hlk hk hr ht (mx_top e kk)
theorem mx_ialdV {a : Nat} {i : Int32} (j : Nat) (v : Int32) (hd : decode (mx_cc M) pc = .ok (.iaload, 1)) (ht : mx_tg G a = 1) (hi : mx_ix i j (mx_ln G a)) (e : I a j = v) (kk : mx_V M S d bc bs (pc + 1) ls (.int v :: st) G I Q X) : mx_V M S d bc bs pc ls (.int i :: .ref a :: st) G I Q X := mx_iald j hd ht hi (mx_top e kk)
theorem mx_caldV {a : Nat} {i : Int32} (j : Nat) (v : Int32) (hd : decode (mx_cc M) pc = .ok (.caload, 1)) (ht : mx_tg G a = 2) (hi : mx_ix i j (mx_ln G a)) (e : I a j = v) (kk : mx_V M S d bc bs (pc + 1) ls (.int v :: st) G I Q X) : mx_V M S d bc bs pc ls (.int i :: .ref a :: st) G I Q X := mx_cald j hd ht hi (mx_top e kk)
theorem mx_zaldV {a : Nat} {i : Int32} (j : Nat) (v : Int32) (hd : decode (mx_cc M) pc = .ok (.baload, 1)) (ht : mx_tg G a = 3) (hi : mx_ix i j (mx_ln G a)) (e : I a j = v) (kk : mx_V M S d bc bs (pc + 1) ls (.int v :: st) G I Q X) : mx_V M S d bc bs pc ls (.int i :: .ref a :: st) G I Q X := mx_zald j hd ht hi (mx_top e kk)
/-- a call that changes nothing, answers r -/
def mx_CTp (y : MethodName) (M' : mx_MI) (d' : Nat) (av : List Value) (G : mx_G) (I : mx_I) (r : Option Value) : Prop := mx_CT y M' d' 0 0 av G I (fun v G' I' => v = r ∧ G' = G ∧ I' = I) (fun _ _ _ => False)
/-- a call that changes ints alone -/
def mx_CTi (y : MethodName) (M' : mx_MI) (d' : Nat) (av : List Value) (G : mx_G) (I : mx_I) (R : Option Value → mx_I → Prop) : Prop := mx_CT y M' d' 0 0 av G I (fun v G' I' => R v I' ∧ G' = G) (fun _ _ _ => False)
theorem mx_callVp {y : MethodName} {M' : mx_MI} {d' idx n : Nat} {As rest stk : List Value} {b ci : Nat} {r : Option Value} (hd : decode (mx_cc M) pc = .ok (.invokevirtual idx, 3)) (hc : mx_CTp y M' d' (.ref b :: As) G I r) (hk : mx_kM y M' n) (hhh : mx_hh M' = []) (h1 : Cond.methodLink (mx_own M) idx y ∈ mx_AW) (h2 : Cond.instanceMethod y ∈ mx_AW) (h3 : Cond.selects (mx_C ci) y y ∈ mx_AW) (ht : mx_tg G b = ci + 10) (hst : stk = As.reverse ++ .ref b :: rest) (hn : As.length = n) (hW : (rest.map fun v => v.category).sum ≤ 8) (hdd : d' + 1 ≤ d) (k : mx_V M S d bc bs (pc + 3) ls (r.toList ++ rest) G I Q X) : mx_V M S d bc bs pc ls stk G I Q X := mx_callV (b1 := 0) (b2 := 0) hd hc hk hhh h1 h2 h3 ht hst hn hW hdd (fun _ _ _ q => q.elim) (fun v G' I' q => by obtain ⟨rfl, rfl, rfl⟩ := q; exact k)
theorem mx_callVi {y : MethodName} {M' : mx_MI} {d' idx n : Nat} {As rest stk : List Value} {b ci : Nat} {R : Option Value → mx_I → Prop} (hd : decode (mx_cc M) pc = .ok (.invokevirtual idx, 3)) (hc : mx_CTi y M' d' (.ref b :: As) G I R) (hk : mx_kM y M' n) (hhh : mx_hh M' = []) (h1 : Cond.methodLink (mx_own M) idx y ∈ mx_AW) (h2 : Cond.instanceMethod y ∈ mx_AW) (h3 : Cond.selects (mx_C ci) y y ∈ mx_AW) (ht : mx_tg G b = ci + 10) (hst : stk = As.reverse ++ .ref b :: rest) (hn : As.length = n) (hW : (rest.map fun v => v.category).sum ≤ 8) (hdd : d' + 1 ≤ d) (k : ∀ v I', R v I' → mx_V M S d bc bs (pc + 3) ls (v.toList ++ rest) G I' Q X) : mx_V M S d bc bs pc ls stk G I Q X := mx_callV (b1 := 0) (b2 := 0) hd hc hk hhh h1 h2 h3 ht hst hn hW hdd (fun _ _ _ q => q.elim) (fun v G' I' q => by obtain ⟨h, rfl⟩ := q; exact k v I' h)
theorem mx_callSp {y : MethodName} {M' : mx_MI} {d' idx n : Nat} {As rest stk : List Value} {r : Option Value} (hd : decode (mx_cc M) pc = .ok (.invokestatic idx, 3)) (hc : mx_CTp y M' d' As G I r) (hk : mx_kM y M' n) (hhh : mx_hh M' = []) (h1 : Cond.methodLink (mx_own M) idx y ∈ mx_AW) (h2 : Cond.static y ∈ mx_AW) (hst : stk = As.reverse ++ rest) (hn : As.length = n) (hW : (rest.map fun v => v.category).sum ≤ 8) (hdd : d' + 1 ≤ d) (k : mx_V M S d bc bs (pc + 3) ls (r.toList ++ rest) G I Q X) : mx_V M S d bc bs pc ls stk G I Q X := mx_callS (b1 := 0) (b2 := 0) hd hc hk hhh h1 h2 hst hn hW hdd (fun _ _ _ q => q.elim) (fun v G' I' q => by obtain ⟨rfl, rfl, rfl⟩ := q; exact k)
theorem mx_callSi {y : MethodName} {M' : mx_MI} {d' idx n : Nat} {As rest stk : List Value} {R : Option Value → mx_I → Prop} (hd : decode (mx_cc M) pc = .ok (.invokestatic idx, 3)) (hc : mx_CTi y M' d' As G I R) (hk : mx_kM y M' n) (hhh : mx_hh M' = []) (h1 : Cond.methodLink (mx_own M) idx y ∈ mx_AW) (h2 : Cond.static y ∈ mx_AW) (hst : stk = As.reverse ++ rest) (hn : As.length = n) (hW : (rest.map fun v => v.category).sum ≤ 8) (hdd : d' + 1 ≤ d) (k : ∀ v I', R v I' → mx_V M S d bc bs (pc + 3) ls (v.toList ++ rest) G I' Q X) : mx_V M S d bc bs pc ls stk G I Q X := mx_callS (b1 := 0) (b2 := 0) hd hc hk hhh h1 h2 hst hn hW hdd (fun _ _ _ q => q.elim) (fun v G' I' q => by obtain ⟨h, rfl⟩ := q; exact k v I' h)
theorem mx_callSNp {y : MethodName} {M' : mx_MI} {d' idx n : Nat} {As rest stk : List Value} {host : String} {r : Option Value} (hd : decode (mx_cc M) pc = .ok (.invokestatic idx, 3)) (hc : mx_CTp y M' d' As G I r) (hk : mx_kM y M' n) (hhh : mx_hh M' = []) (h1 : Cond.methodLinkNest (mx_own M) idx y host ∈ mx_NW) (h2 : Cond.static y ∈ mx_AW) (hst : stk = As.reverse ++ rest) (hn : As.length = n) (hW : (rest.map fun v => v.category).sum ≤ 8) (hdd : d' + 1 ≤ d) (k : mx_V M S d bc bs (pc + 3) ls (r.toList ++ rest) G I Q X) : mx_V M S d bc bs pc ls stk G I Q X := mx_callSN (b1 := 0) (b2 := 0) hd hc hk hhh h1 h2 hst hn hW hdd (fun _ _ _ q => q.elim) (fun v G' I' q => by obtain ⟨rfl, rfl, rfl⟩ := q; exact k)
theorem mx_callSNi {y : MethodName} {M' : mx_MI} {d' idx n : Nat} {As rest stk : List Value} {host : String} {R : Option Value → mx_I → Prop} (hd : decode (mx_cc M) pc = .ok (.invokestatic idx, 3)) (hc : mx_CTi y M' d' As G I R) (hk : mx_kM y M' n) (hhh : mx_hh M' = []) (h1 : Cond.methodLinkNest (mx_own M) idx y host ∈ mx_NW) (h2 : Cond.static y ∈ mx_AW) (hst : stk = As.reverse ++ rest) (hn : As.length = n) (hW : (rest.map fun v => v.category).sum ≤ 8) (hdd : d' + 1 ≤ d) (k : ∀ v I', R v I' → mx_V M S d bc bs (pc + 3) ls (v.toList ++ rest) G I' Q X) : mx_V M S d bc bs pc ls stk G I Q X := mx_callSN (b1 := 0) (b2 := 0) hd hc hk hhh h1 h2 hst hn hW hdd (fun _ _ _ q => q.elim) (fun v G' I' q => by obtain ⟨h, rfl⟩ := q; exact k v I' h)
end MXB
theorem km_X0_init : mx_kM yX0_init mX0_init 0 := ⟨k_302, k_67, by decide +kernel, by decide⟩
theorem km_X0_aimAt : mx_kM yX0_aimAt mX0_aimAt 2 := ⟨k_813, k_67, by decide +kernel, by decide⟩
theorem km_X0_goingsFrom : mx_kM yX0_goingsFrom mX0_goingsFrom 1 := ⟨k_838, k_67, by decide +kernel, by decide⟩
theorem km_X0_goingAt : mx_kM yX0_goingAt mX0_goingAt 3 := ⟨k_849, k_67, by decide +kernel, by decide⟩
theorem km_X0_reset : mx_kM yX0_reset mX0_reset 0 := ⟨k_817, k_67, by decide +kernel, by decide⟩
theorem km_X0_offer : mx_kM yX0_offer mX0_offer 3 := ⟨k_823, k_67, by decide +kernel, by decide⟩
theorem km_X0_settle : mx_kM yX0_settle mX0_settle 3 := ⟨k_829, k_67, by decide +kernel, by decide⟩
theorem km_X0_goBack : mx_kM yX0_goBack mX0_goBack 3 := ⟨k_833, k_67, by decide +kernel, by decide⟩
theorem km_X0_advance : mx_kM yX0_advance mX0_advance 1 := ⟨k_854, k_67, by decide +kernel, by decide⟩
theorem km_X0_goes : mx_kM yX0_goes mX0_goes 3 := ⟨k_858, k_67, by decide +kernel, by decide⟩
theorem km_X0_leaving : mx_kM yX0_leaving mX0_leaving 3 := ⟨k_871, k_67, by decide +kernel, by decide⟩
theorem km_X1_init : mx_kM yX1_init mX1_init 1 := ⟨k_243, k_64, by decide +kernel, by decide⟩
theorem km_X1_remember : mx_kM yX1_remember mX1_remember 1 := ⟨k_663, k_64, by decide +kernel, by decide⟩
theorem km_X1_bringBack : mx_kM yX1_bringBack mX1_bringBack 1 := ⟨k_791, k_64, by decide +kernel, by decide⟩
theorem km_X1_forgetAll : mx_kM yX1_forgetAll mX1_forgetAll 0 := ⟨k_532, k_64, by decide +kernel, by decide⟩
theorem km_X2_init : mx_kM yX2_init mX2_init 0 := ⟨k_107, k_60, by decide +kernel, by decide⟩
theorem km_X2_isLetter : mx_kM yX2_isLetter mX2_isLetter 1 := ⟨k_373, k_60, by decide +kernel, by decide⟩
theorem km_X2_isEnding : mx_kM yX2_isEnding mX2_isEnding 1 := ⟨k_376, k_60, by decide +kernel, by decide⟩
theorem km_X2_accepts : mx_kM yX2_accepts mX2_accepts 1 := ⟨k_543, k_60, by decide +kernel, by decide⟩
theorem km_X2_following : mx_kM yX2_following mX2_following 1 := ⟨k_580, k_60, by decide +kernel, by decide⟩
theorem km_X2_allow : mx_kM yX2_allow mX2_allow 2 := ⟨k_771, k_60, by decide +kernel, by decide⟩
theorem km_X2_place : mx_kM yX2_place mX2_place 1 := ⟨k_763, k_60, by decide +kernel, by decide⟩
theorem km_X3_init : mx_kM yX3_init mX3_init 0 := ⟨k_146, k_61, by decide +kernel, by decide⟩
theorem km_X3_read : mx_kM yX3_read mX3_read 1 := ⟨k_746, k_61, by decide +kernel, by decide⟩
theorem km_X3_readSign : mx_kM yX3_readSign mX3_readSign 2 := ⟨k_758, k_61, by decide +kernel, by decide⟩
theorem km_X3_begin : mx_kM yX3_begin mX3_begin 0 := ⟨k_750, k_61, by decide +kernel, by decide⟩
theorem km_X3_closed : mx_kM yX3_closed mX3_closed 0 := ⟨k_775, k_61, by decide +kernel, by decide⟩
theorem km_X3_addPart : mx_kM yX3_addPart mX3_addPart 1 := ⟨k_767, k_61, by decide +kernel, by decide⟩
theorem km_X4_init : mx_kM yX4_init mX4_init 0 := ⟨k_153, k_62, by decide +kernel, by decide⟩
theorem km_X4_become : mx_kM yX4_become mX4_become 3 := ⟨k_754, k_62, by decide +kernel, by decide⟩
theorem km_X4_orElse : mx_kM yX4_orElse mX4_orElse 1 := ⟨k_779, k_62, by decide +kernel, by decide⟩
theorem km_X5_init : mx_kM yX5_init mX5_init 0 := ⟨k_263, k_65, by decide +kernel, by decide⟩
theorem km_X5_fromPerson : mx_kM yX5_fromPerson mX5_fromPerson 3 := ⟨k_551, k_65, by decide +kernel, by decide⟩
theorem km_X5_between : mx_kM yX5_between mX5_between 5 := ⟨k_802, k_65, by decide +kernel, by decide⟩
theorem km_X5_finds : mx_kM yX5_finds mX5_finds 4 := ⟨k_631, k_65, by decide +kernel, by decide⟩
theorem km_X5_peopleFrom : mx_kM yX5_peopleFrom mX5_peopleFrom 2 := ⟨k_623, k_65, by decide +kernel, by decide⟩
theorem km_X5_peopleTo : mx_kM yX5_peopleTo mX5_peopleTo 2 := ⟨k_627, k_65, by decide +kernel, by decide⟩
theorem km_X5_survey : mx_kM yX5_survey mX5_survey 2 := ⟨k_547, k_65, by decide +kernel, by decide⟩
theorem km_X5_couldGo : mx_kM yX5_couldGo mX5_couldGo 3 := ⟨k_913, k_65, by decide +kernel, by decide⟩
theorem km_X5_run : mx_kM yX5_run mX5_run 5 := ⟨k_555, k_65, by decide +kernel, by decide⟩
theorem km_X5_reset : mx_kM yX5_reset mX5_reset 1 := ⟨k_559, k_65, by decide +kernel, by decide⟩
theorem km_X5_settle : mx_kM yX5_settle mX5_settle 4 := ⟨k_575, k_65, by decide +kernel, by decide⟩
theorem km_X5_isBlocked : mx_kM yX5_isBlocked mX5_isBlocked 1 := ⟨k_584, k_65, by decide +kernel, by decide⟩
theorem km_X6_init : mx_kM yX6_init mX6_init 1 := ⟨k_190, k_63, by decide +kernel, by decide⟩
theorem km_X6_clear : mx_kM yX6_clear mX6_clear 1 := ⟨k_384, k_63, by decide +kernel, by decide⟩
theorem km_X6_copyFrom : mx_kM yX6_copyFrom mX6_copyFrom 1 := ⟨k_528, k_63, by decide +kernel, by decide⟩
theorem km_X6_hasPerson : mx_kM yX6_hasPerson mX6_hasPerson 1 := ⟨k_392, k_63, by decide +kernel, by decide⟩
theorem km_X6_hasPeople : mx_kM yX6_hasPeople mX6_hasPeople 2 := ⟨k_642, k_63, by decide +kernel, by decide⟩
theorem km_X6_hasStep : mx_kM yX6_hasStep mX6_hasStep 1 := ⟨k_607, k_63, by decide +kernel, by decide⟩
theorem km_X6_faultOfAdding : mx_kM yX6_faultOfAdding mX6_faultOfAdding 4 := ⟨k_678, k_63, by decide +kernel, by decide⟩
theorem km_X6_faultOfCosting : mx_kM yX6_faultOfCosting mX6_faultOfCosting 2 := ⟨k_708, k_63, by decide +kernel, by decide⟩
theorem km_X6_faultOfReversing : mx_kM yX6_faultOfReversing mX6_faultOfReversing 1 := ⟨k_720, k_63, by decide +kernel, by decide⟩
theorem km_X6_indexOf : mx_kM yX6_indexOf mX6_indexOf 3 := ⟨k_399, k_63, by decide +kernel, by decide⟩
theorem km_X6_countOf : mx_kM yX6_countOf mX6_countOf 2 := ⟨k_619, k_63, by decide +kernel, by decide⟩
theorem km_X6_costSum : mx_kM yX6_costSum mX6_costSum 0 := ⟨k_595, k_63, by decide +kernel, by decide⟩
theorem km_X6_put : mx_kM yX6_put mX6_put 4 := ⟨k_686, k_63, by decide +kernel, by decide⟩
theorem km_X6_drop : mx_kM yX6_drop mX6_drop 1 := ⟨k_697, k_63, by decide +kernel, by decide⟩
theorem km_X6_reverse : mx_kM yX6_reverse mX6_reverse 1 := ⟨k_724, k_63, by decide +kernel, by decide⟩
theorem km_X6_swapKinds : mx_kM yX6_swapKinds mX6_swapKinds 2 := ⟨k_735, k_63, by decide +kernel, by decide⟩
theorem km_X6_beginOf : mx_kM yX6_beginOf mX6_beginOf 2 := ⟨k_862, k_63, by decide +kernel, by decide⟩
theorem km_X6_endOf : mx_kM yX6_endOf mX6_endOf 2 := ⟨k_866, k_63, by decide +kernel, by decide⟩
theorem km_X6_enter : mx_kM yX6_enter mX6_enter 3 := ⟨k_588, k_63, by decide +kernel, by decide⟩
theorem km_X7_init : mx_kM yX7_init mX7_init 0 := ⟨k_89, k_59, by decide +kernel, by decide⟩
theorem km_X7_patternError : mx_kM yX7_patternError mX7_patternError 0 := ⟨k_370, k_59, by decide +kernel, by decide⟩
theorem km_X7_readGraph : mx_kM yX7_readGraph mX7_readGraph 2 := ⟨k_380, k_59, by decide +kernel, by decide⟩
theorem km_X7_readCharacter : mx_kM yX7_readCharacter mX7_readCharacter 2 := ⟨k_388, k_59, by decide +kernel, by decide⟩
theorem km_X8_init : mx_kM yX8_init mX8_init 0 := ⟨k_269, k_66, by decide +kernel, by decide⟩
theorem km_X8_clear : mx_kM yX8_clear mX8_clear 0 := ⟨k_563, k_66, by decide +kernel, by decide⟩
theorem km_X8_put : mx_kM yX8_put mX8_put 3 := ⟨k_567, k_66, by decide +kernel, by decide⟩
theorem km_X8_draw : mx_kM yX8_draw mX8_draw 2 := ⟨k_571, k_66, by decide +kernel, by decide⟩
theorem km_X9_init : mx_kM yX9_init mX9_init 0 := ⟨k_81, k_58, by decide +kernel, by decide⟩
theorem km_X9_append : mx_kM yX9_append mX9_append 1 := ⟨k_411, k_58, by decide +kernel, by decide⟩
theorem km_X9_clearText : mx_kM yX9_clearText mX9_clearText 0 := ⟨k_362, k_58, by decide +kernel, by decide⟩
theorem km_X9_errorPosition : mx_kM yX9_errorPosition mX9_errorPosition 1 := ⟨k_366, k_58, by decide +kernel, by decide⟩
theorem km_X9_load : mx_kM yX9_load mX9_load 0 := ⟨k_524, k_58, by decide +kernel, by decide⟩
theorem km_X9_about : mx_kM yX9_about mX9_about 1 := ⟨k_539, k_58, by decide +kernel, by decide⟩
theorem km_X9_step : mx_kM yX9_step mX9_step 2 := ⟨k_603, k_58, by decide +kernel, by decide⟩
theorem km_X9_person : mx_kM yX9_person mX9_person 2 := ⟨k_614, k_58, by decide +kernel, by decide⟩
theorem km_X9_find : mx_kM yX9_find mX9_find 3 := ⟨k_638, k_58, by decide +kernel, by decide⟩
theorem km_X9_patternAt : mx_kM yX9_patternAt mX9_patternAt 1 := ⟨k_652, k_58, by decide +kernel, by decide⟩
theorem km_X9_addPerson : mx_kM yX9_addPerson mX9_addPerson 0 := ⟨k_659, k_58, by decide +kernel, by decide⟩
theorem km_X9_addStep : mx_kM yX9_addStep mX9_addStep 4 := ⟨k_674, k_58, by decide +kernel, by decide⟩
theorem km_X9_removeStep : mx_kM yX9_removeStep mX9_removeStep 1 := ⟨k_693, k_58, by decide +kernel, by decide⟩
theorem km_X9_setCost : mx_kM yX9_setCost mX9_setCost 2 := ⟨k_704, k_58, by decide +kernel, by decide⟩
theorem km_X9_turn : mx_kM yX9_turn mX9_turn 1 := ⟨k_716, k_58, by decide +kernel, by decide⟩
theorem km_X9_exchange : mx_kM yX9_exchange mX9_exchange 2 := ⟨k_731, k_58, by decide +kernel, by decide⟩
theorem km_X9_take : mx_kM yX9_take mX9_take 0 := ⟨k_742, k_58, by decide +kernel, by decide⟩
theorem km_X9_undo : mx_kM yX9_undo mX9_undo 0 := ⟨k_787, k_58, by decide +kernel, by decide⟩
theorem km_X9_cost : mx_kM yX9_cost mX9_cost 2 := ⟨k_798, k_58, by decide +kernel, by decide⟩
theorem km_X9_length : mx_kM yX9_length mX9_length 2 := ⟨k_809, k_58, by decide +kernel, by decide⟩
theorem km_X9_pathAt : mx_kM yX9_pathAt mX9_pathAt 3 := ⟨k_845, k_58, by decide +kernel, by decide⟩
theorem km_X9_paths : mx_kM yX9_paths mX9_paths 3 := ⟨k_878, k_58, by decide +kernel, by decide⟩
theorem km_X9_needed : mx_kM yX9_needed mX9_needed 2 := ⟨k_892, k_58, by decide +kernel, by decide⟩
theorem km_X9_bestNew : mx_kM yX9_bestNew mX9_bestNew 2 := ⟨k_900, k_58, by decide +kernel, by decide⟩
theorem km_X9_follow : mx_kM yX9_follow mX9_follow 3 := ⟨k_920, k_58, by decide +kernel, by decide⟩
theorem km_X9_runScript : mx_kM yX9_runScript mX9_runScript 2 := ⟨k_932, k_58, by decide +kernel, by decide⟩
theorem km_X9_simulate : mx_kM yX9_simulate mX9_simulate 2 := ⟨k_986, k_58, by decide +kernel, by decide⟩
theorem km_X9_save : mx_kM yX9_save mX9_save 1 := ⟨k_996, k_58, by decide +kernel, by decide⟩
theorem km_X9_restore : mx_kM yX9_restore mX9_restore 1 := ⟨k_1006, k_58, by decide +kernel, by decide⟩
theorem km_X9_require : mx_kM yX9_require mX9_require 2 := ⟨k_414, k_58, by decide +kernel, by decide⟩
theorem km_X9_refuse : mx_kM yX9_refuse mX9_refuse 1 := ⟨k_417, k_58, by decide +kernel, by decide⟩
theorem km_X9_isKind : mx_kM yX9_isKind mX9_isKind 1 := ⟨k_395, k_58, by decide +kernel, by decide⟩
theorem km_X9_isCost : mx_kM yX9_isCost mX9_isCost 1 := ⟨k_402, k_58, by decide +kernel, by decide⟩
theorem km_X9_isSlot : mx_kM yX9_isSlot mX9_isSlot 1 := ⟨k_999, k_58, by decide +kernel, by decide⟩
theorem km_X9_without : mx_kM yX9_without mX9_without 2 := ⟨k_923, k_58, by decide +kernel, by decide⟩
theorem km_X9_countFitting : mx_kM yX9_countFitting mX9_countFitting 5 := ⟨k_881, k_58, by decide +kernel, by decide⟩
theorem km_X9_isNew : mx_kM yX9_isNew mX9_isNew 1 := ⟨k_905, k_58, by decide +kernel, by decide⟩
theorem km_X9_costWith : mx_kM yX9_costWith mX9_costWith 4 := ⟨k_909, k_58, by decide +kernel, by decide⟩
theorem km_X9_succeeds : mx_kM yX9_succeeds mX9_succeeds 1 := ⟨k_937, k_58, by decide +kernel, by decide⟩
theorem km_X9_adds : mx_kM yX9_adds mX9_adds 4 := ⟨k_941, k_58, by decide +kernel, by decide⟩
theorem km_X9_removes : mx_kM yX9_removes mX9_removes 1 := ⟨k_945, k_58, by decide +kernel, by decide⟩
theorem km_X9_setsCost : mx_kM yX9_setsCost mX9_setsCost 2 := ⟨k_949, k_58, by decide +kernel, by decide⟩
theorem km_X9_turns : mx_kM yX9_turns mX9_turns 1 := ⟨k_953, k_58, by decide +kernel, by decide⟩
theorem km_X9_exchanges : mx_kM yX9_exchanges mX9_exchanges 2 := ⟨k_957, k_58, by decide +kernel, by decide⟩
theorem km_X9_costsAtMost : mx_kM yX9_costsAtMost mX9_costsAtMost 3 := ⟨k_961, k_58, by decide +kernel, by decide⟩
theorem km_X9_goesAtMost : mx_kM yX9_goesAtMost mX9_goesAtMost 3 := ⟨k_965, k_58, by decide +kernel, by decide⟩
theorem km_X9_reachesAtLeast : mx_kM yX9_reachesAtLeast mX9_reachesAtLeast 2 := ⟨k_969, k_58, by decide +kernel, by decide⟩
theorem km_X9_needsStep : mx_kM yX9_needsStep mX9_needsStep 3 := ⟨k_979, k_58, by decide +kernel, by decide⟩
theorem km_X10_init : mx_kM yX10_init mX10_init 0 := ⟨k_1011, k_68, by decide +kernel, by decide⟩
theorem km_X10_thrown : mx_kM yX10_thrown mX10_thrown 0 := ⟨k_1113, k_68, by decide +kernel, by decide⟩
theorem km_X10_refused : mx_kM yX10_refused mX10_refused 1 := ⟨k_1125, k_68, by decide +kernel, by decide⟩
theorem km_X10_in : mx_kM yX10_in mX10_in 3 := ⟨k_1121, k_68, by decide +kernel, by decide⟩
theorem km_X10_copyGraph : mx_kM yX10_copyGraph mX10_copyGraph 4 := ⟨k_1192, k_68, by decide +kernel, by decide⟩
theorem km_X10_isPerson : mx_kM yX10_isPerson mX10_isPerson 2 := ⟨k_1245, k_68, by decide +kernel, by decide⟩
theorem km_X10_isStep : mx_kM yX10_isStep mX10_isStep 2 := ⟨k_1237, k_68, by decide +kernel, by decide⟩
theorem km_X10_at : mx_kM yX10_at mX10_at 1 := ⟨k_1182, k_68, by decide +kernel, by decide⟩
theorem km_X10_found : mx_kM yX10_found mX10_found 4 := ⟨k_1179, k_68, by decide +kernel, by decide⟩
theorem km_X10_add : mx_kM yX10_add mX10_add 5 := ⟨k_1185, k_68, by decide +kernel, by decide⟩
theorem km_X10_cut : mx_kM yX10_cut mX10_cut 2 := ⟨k_1284, k_68, by decide +kernel, by decide⟩
theorem km_X10_beginBranch : mx_kM yX10_beginBranch mX10_beginBranch 1 := ⟨k_1145, k_68, by decide +kernel, by decide⟩
theorem km_X10_beginLevel : mx_kM yX10_beginLevel mX10_beginLevel 1 := ⟨k_1141, k_68, by decide +kernel, by decide⟩
theorem km_X10_endBranch : mx_kM yX10_endBranch mX10_endBranch 1 := ⟨k_1156, k_68, by decide +kernel, by decide⟩
theorem km_X10_letFollow : mx_kM yX10_letFollow mX10_letFollow 2 := ⟨k_1160, k_68, by decide +kernel, by decide⟩
theorem km_X10_addPart : mx_kM yX10_addPart mX10_addPart 4 := ⟨k_1164, k_68, by decide +kernel, by decide⟩
theorem km_X10_signOf : mx_kM yX10_signOf mX10_signOf 1 := ⟨k_1148, k_68, by decide +kernel, by decide⟩
theorem km_X10_compile : mx_kM yX10_compile mX10_compile 3 := ⟨k_1137, k_68, by decide +kernel, by decide⟩
theorem km_X10_compileOf : mx_kM yX10_compileOf mX10_compileOf 1 := ⟨k_1201, k_68, by decide +kernel, by decide⟩
theorem km_X10_isEnd : mx_kM yX10_isEnd mX10_isEnd 1 := ⟨k_1226, k_68, by decide +kernel, by decide⟩
theorem km_X10_fits : mx_kM yX10_fits mX10_fits 2 := ⟨k_1221, k_68, by decide +kernel, by decide⟩
theorem km_X10_behind : mx_kM yX10_behind mX10_behind 2 := ⟨k_1337, k_68, by decide +kernel, by decide⟩
theorem km_X10_layPrices : mx_kM yX10_layPrices mX10_layPrices 2 := ⟨k_1205, k_68, by decide +kernel, by decide⟩
theorem km_X10_relax : mx_kM yX10_relax mX10_relax 4 := ⟨k_1230, k_68, by decide +kernel, by decide⟩
theorem km_X10_layFits : mx_kM yX10_layFits mX10_layFits 0 := ⟨k_1217, k_68, by decide +kernel, by decide⟩
theorem km_X10_layFar : mx_kM yX10_layFar mX10_layFar 2 := ⟨k_1213, k_68, by decide +kernel, by decide⟩
theorem km_X10_best : mx_kM yX10_best mX10_best 3 := ⟨k_1253, k_68, by decide +kernel, by decide⟩
theorem km_X10_bestNow : mx_kM yX10_bestNow mX10_bestNow 2 := ⟨k_1325, k_68, by decide +kernel, by decide⟩
theorem km_X10_bestOf : mx_kM yX10_bestOf mX10_bestOf 4 := ⟨k_1358, k_68, by decide +kernel, by decide⟩
theorem km_X10_append : mx_kM yX10_append mX10_append 1 := ⟨k_1117, k_68, by decide +kernel, by decide⟩
theorem km_X10_clearText : mx_kM yX10_clearText mX10_clearText 0 := ⟨k_1129, k_68, by decide +kernel, by decide⟩
theorem km_X10_sign : mx_kM yX10_sign mX10_sign 2 := ⟨k_1172, k_68, by decide +kernel, by decide⟩
theorem km_X10_readStep : mx_kM yX10_readStep mX10_readStep 0 := ⟨k_1176, k_68, by decide +kernel, by decide⟩
theorem km_X10_readGraph : mx_kM yX10_readGraph mX10_readGraph 0 := ⟨k_1168, k_68, by decide +kernel, by decide⟩
theorem km_X10_errorPosition : mx_kM yX10_errorPosition mX10_errorPosition 1 := ⟨k_1133, k_68, by decide +kernel, by decide⟩
theorem km_X10_load : mx_kM yX10_load mX10_load 0 := ⟨k_1189, k_68, by decide +kernel, by decide⟩
theorem km_X10_layPairs : mx_kM yX10_layPairs mX10_layPairs 1 := ⟨k_1209, k_68, by decide +kernel, by decide⟩
theorem km_X10_about : mx_kM yX10_about mX10_about 1 := ⟨k_1196, k_68, by decide +kernel, by decide⟩
theorem km_X10_step : mx_kM yX10_step mX10_step 2 := ⟨k_1234, k_68, by decide +kernel, by decide⟩
theorem km_X10_reached : mx_kM yX10_reached mX10_reached 2 := ⟨k_1249, k_68, by decide +kernel, by decide⟩
theorem km_X10_person : mx_kM yX10_person mX10_person 2 := ⟨k_1242, k_68, by decide +kernel, by decide⟩
theorem km_X10_find : mx_kM yX10_find mX10_find 3 := ⟨k_1257, k_68, by decide +kernel, by decide⟩
theorem km_X10_patternAt : mx_kM yX10_patternAt mX10_patternAt 1 := ⟨k_1261, k_68, by decide +kernel, by decide⟩
theorem km_X10_remember : mx_kM yX10_remember mX10_remember 0 := ⟨k_1269, k_68, by decide +kernel, by decide⟩
theorem km_X10_addPerson : mx_kM yX10_addPerson mX10_addPerson 0 := ⟨k_1265, k_68, by decide +kernel, by decide⟩
theorem km_X10_whyNotAdd : mx_kM yX10_whyNotAdd mX10_whyNotAdd 5 := ⟨k_1276, k_68, by decide +kernel, by decide⟩
theorem km_X10_addStep : mx_kM yX10_addStep mX10_addStep 4 := ⟨k_1273, k_68, by decide +kernel, by decide⟩
theorem km_X10_removeStep : mx_kM yX10_removeStep mX10_removeStep 1 := ⟨k_1281, k_68, by decide +kernel, by decide⟩
theorem km_X10_setCost : mx_kM yX10_setCost mX10_setCost 2 := ⟨k_1288, k_68, by decide +kernel, by decide⟩
theorem km_X10_whyNotTurn : mx_kM yX10_whyNotTurn mX10_whyNotTurn 2 := ⟨k_1295, k_68, by decide +kernel, by decide⟩
theorem km_X10_turnOn : mx_kM yX10_turnOn mX10_turnOn 2 := ⟨k_1298, k_68, by decide +kernel, by decide⟩
theorem km_X10_turn : mx_kM yX10_turn mX10_turn 1 := ⟨k_1292, k_68, by decide +kernel, by decide⟩
theorem km_X10_exchangeOn : mx_kM yX10_exchangeOn mX10_exchangeOn 3 := ⟨k_1305, k_68, by decide +kernel, by decide⟩
theorem km_X10_exchange : mx_kM yX10_exchange mX10_exchange 2 := ⟨k_1302, k_68, by decide +kernel, by decide⟩
theorem km_X10_take : mx_kM yX10_take mX10_take 0 := ⟨k_1309, k_68, by decide +kernel, by decide⟩
theorem km_X10_undo : mx_kM yX10_undo mX10_undo 0 := ⟨k_1313, k_68, by decide +kernel, by decide⟩
theorem km_X10_areNoPeople : mx_kM yX10_areNoPeople mX10_areNoPeople 2 := ⟨k_1321, k_68, by decide +kernel, by decide⟩
theorem km_X10_cost : mx_kM yX10_cost mX10_cost 2 := ⟨k_1317, k_68, by decide +kernel, by decide⟩
theorem km_X10_length : mx_kM yX10_length mX10_length 2 := ⟨k_1329, k_68, by decide +kernel, by decide⟩
theorem km_X10_soFar : mx_kM yX10_soFar mX10_soFar 3 := ⟨k_1341, k_68, by decide +kernel, by decide⟩
theorem km_X10_pathAt : mx_kM yX10_pathAt mX10_pathAt 3 := ⟨k_1333, k_68, by decide +kernel, by decide⟩
theorem km_X10_paths : mx_kM yX10_paths mX10_paths 3 := ⟨k_1345, k_68, by decide +kernel, by decide⟩
theorem km_X10_neededIn : mx_kM yX10_neededIn mX10_neededIn 3 := ⟨k_1354, k_68, by decide +kernel, by decide⟩
theorem km_X10_needed : mx_kM yX10_needed mX10_needed 2 := ⟨k_1350, k_68, by decide +kernel, by decide⟩
theorem km_X10_bestNew : mx_kM yX10_bestNew mX10_bestNew 2 := ⟨k_1362, k_68, by decide +kernel, by decide⟩
theorem km_X10_follow : mx_kM yX10_follow mX10_follow 3 := ⟨k_1367, k_68, by decide +kernel, by decide⟩
theorem km_X10_ones : mx_kM yX10_ones mX10_ones 1 := ⟨k_1381, k_68, by decide +kernel, by decide⟩
theorem km_X10_command : mx_kM yX10_command mX10_command 5 := ⟨k_1378, k_68, by decide +kernel, by decide⟩
theorem km_X10_runScript : mx_kM yX10_runScript mX10_runScript 2 := ⟨k_1373, k_68, by decide +kernel, by decide⟩
theorem km_X10_simulate : mx_kM yX10_simulate mX10_simulate 2 := ⟨k_1385, k_68, by decide +kernel, by decide⟩
theorem km_X10_save : mx_kM yX10_save mX10_save 1 := ⟨k_1392, k_68, by decide +kernel, by decide⟩
theorem km_X10_restore : mx_kM yX10_restore mX10_restore 1 := ⟨k_1396, k_68, by decide +kernel, by decide⟩
theorem km_J6_bitCount_0f7a4 : mx_kM yJ6_bitCount_0f7a4 mJ6_bitCount_0f7a4 1 := ⟨k_972, k_76, by decide +kernel, by decide⟩
theorem km_L_append : mx_kM yL_append mL_append 3 := ⟨k_405, k_57, by decide +kernel, by decide⟩
theorem km_L_load : mx_kM yL_load mL_load 2 := ⟨k_520, k_57, by decide +kernel, by decide⟩
theorem km_L_about : mx_kM yL_about mL_about 3 := ⟨k_535, k_57, by decide +kernel, by decide⟩
theorem km_L_step : mx_kM yL_step mL_step 4 := ⟨k_598, k_57, by decide +kernel, by decide⟩
theorem km_L_person : mx_kM yL_person mL_person 4 := ⟨k_610, k_57, by decide +kernel, by decide⟩
theorem km_L_find : mx_kM yL_find mL_find 5 := ⟨k_634, k_57, by decide +kernel, by decide⟩
theorem km_L_patternAt : mx_kM yL_patternAt mL_patternAt 3 := ⟨k_648, k_57, by decide +kernel, by decide⟩
theorem km_L_addPerson : mx_kM yL_addPerson mL_addPerson 2 := ⟨k_655, k_57, by decide +kernel, by decide⟩
theorem km_L_addStep : mx_kM yL_addStep mL_addStep 6 := ⟨k_670, k_57, by decide +kernel, by decide⟩
theorem km_L_removeStep : mx_kM yL_removeStep mL_removeStep 3 := ⟨k_689, k_57, by decide +kernel, by decide⟩
theorem km_L_setCost : mx_kM yL_setCost mL_setCost 4 := ⟨k_700, k_57, by decide +kernel, by decide⟩
theorem km_L_turn : mx_kM yL_turn mL_turn 3 := ⟨k_712, k_57, by decide +kernel, by decide⟩
theorem km_L_exchange : mx_kM yL_exchange mL_exchange 4 := ⟨k_727, k_57, by decide +kernel, by decide⟩
theorem km_L_take : mx_kM yL_take mL_take 2 := ⟨k_738, k_57, by decide +kernel, by decide⟩
theorem km_L_undo : mx_kM yL_undo mL_undo 2 := ⟨k_783, k_57, by decide +kernel, by decide⟩
theorem km_L_cost : mx_kM yL_cost mL_cost 4 := ⟨k_794, k_57, by decide +kernel, by decide⟩
theorem km_L_length : mx_kM yL_length mL_length 4 := ⟨k_805, k_57, by decide +kernel, by decide⟩
theorem km_L_pathAt : mx_kM yL_pathAt mL_pathAt 5 := ⟨k_841, k_57, by decide +kernel, by decide⟩
theorem km_L_paths : mx_kM yL_paths mL_paths 5 := ⟨k_874, k_57, by decide +kernel, by decide⟩
theorem km_L_needed : mx_kM yL_needed mL_needed 4 := ⟨k_888, k_57, by decide +kernel, by decide⟩
theorem km_L_bestNew : mx_kM yL_bestNew mL_bestNew 4 := ⟨k_896, k_57, by decide +kernel, by decide⟩
theorem km_L_follow : mx_kM yL_follow mL_follow 5 := ⟨k_916, k_57, by decide +kernel, by decide⟩
theorem km_L_runScript : mx_kM yL_runScript mL_runScript 4 := ⟨k_928, k_57, by decide +kernel, by decide⟩
theorem km_L_simulate : mx_kM yL_simulate mL_simulate 4 := ⟨k_982, k_57, by decide +kernel, by decide⟩
theorem km_L_save : mx_kM yL_save mL_save 3 := ⟨k_992, k_57, by decide +kernel, by decide⟩
theorem km_L_restore : mx_kM yL_restore mL_restore 3 := ⟨k_1002, k_57, by decide +kernel, by decide⟩
theorem k_oi : Cond.instanceMethod objectInit ∈ mx_AW := mx_in 83 (by decide +kernel) (by decide +kernel)
theorem k_oc : Cond.code objectInit ⟨#[0xb1]⟩ 1 none ∈ mx_AW := mx_in 84 (by decide +kernel) (by decide +kernel)
theorem k_ac_int : Cond.arrayClass .int ∈ mx_AW := mx_in 141 (by decide +kernel) (by decide +kernel)
theorem k_ac_char : Cond.arrayClass .char ∈ mx_AW := mx_in 102 (by decide +kernel) (by decide +kernel)
theorem k_ac_boolean : Cond.arrayClass .boolean ∈ mx_AW := mx_in 275 (by decide +kernel) (by decide +kernel)
theorem k_ac_long : Cond.arrayClass .long ∈ mx_AW := mx_in 1398 (by decide +kernel) (by decide +kernel)
