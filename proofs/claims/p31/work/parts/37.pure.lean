/-! THE PURE FUNCTIONS that commands and seeds ask for -/
/-! of 40.mfar -/
/-- the prices, without a step -/
def prM (v : Gr) (bt : Option Nat) : Nat → Nat := fun s => if bt = some s then 0 else gC v s
/-! of 42.mbest -/
def eb (x : Option (Nat × Nat)) : Prop := ∀ y, x = some y → y.1 ≤ 1503 ∧ y.2 ≤ 167
theorem prM_9 {v : Gr} (hv : wfG v) (bt : Option Nat) (s : Nat) (hs : s < gN v) : prM v bt s ≤ 9 := by
  unfold prM
  split
  · omega
  · exact (hv.2.2 s hs).2.2.2.2
theorem prM_0 (v : Gr) : prM v none = gC v := by
  funext s
  unfold prM
  rw [if_neg (fun q => nomatch q)]
/-- to whom a path from p fits -/
noncomputable def rcM (v : Gr) (A : Pa) (pr : Nat → Nat) (p : Nat) : Nat → Nat
  | 0 => 0
  | q + 1 => rcM v A pr p q ||| (if bR v A pr (tgA A q) p 0 = none then 0 else 2 ^ q)
def pvO (x : Option (Nat × Nat)) : Nat × Option Nat := match x with
  | none => (0, none)
  | some y => (1, some y.1)
def opP (a b : Nat × Option Nat) : Nat × Option Nat := (a.1 + b.1, omx a.2 b.2)
/-! of 45.mask -/
/-- from whom a path to q fits -/
noncomputable def tcM (v : Gr) (A : Pa) (pr : Nat → Nat) (q : Nat) : Nat → Nat
  | 0 => 0
  | o + 1 => tcM v A pr q o ||| (if bR v A pr (tgA A q) o 0 = none then 0 else 2 ^ o)
noncomputable abbrev bM (z : Zs) (p q : Nat) : Option (Nat × Nat) := bR (zG z) (vA (zX z)) (prM (zG z) none) (tgA (vA (zX z)) q) p 0
noncomputable def am_cost (z : Zs) (p q : Nat) : Option Nat := (bM z p q).map Prod.fst
/-! of 46.mnew -/
def onM (x : Nat) : Nat → Nat
  | 0 => 0
  | k + 1 => onM x k + (if x.testBit k = true then 1 else 0)
abbrev mayB (z : Zs) (v : Nat) : Prop := (((v / 100 < gP (zG z) ∧ v % 10 < gP (zG z)) ∧ ¬ v / 100 = v % 10) ∧ v / 10 % 10 < 4) ∧ gIx (zG z) (v / 100) (v / 10 % 10) (v % 10) = none
abbrev nwG (z : Zs) (v : Nat) : Gr := gPut (zG z) (v / 100) (v / 10 % 10) (v % 10) 1
/-! of 48.mscr -/
def wtN (v : Gr) (s : Nat) : Nat := if s < gN v then (if gIx v (gT v s) (gK v s) (gF v s) = none then 0 else 2) else 1
/-- the graph behind a command that changes it -/
def cgG (v : Gr) (ho a b c d : Nat) : Option Gr := match ho with
  | 1 => if gWhy v (nI a) (nI b) (nI c) (nI d) = 0 then some (gPut v a b c d) else none
  | 2 => if c + d = 0 ∧ 10 * a + b < gN v then some (gDrop v (10 * a + b)) else none
  | 3 => if (c = 0 ∧ ¬ d = 0) ∧ 10 * a + b < gN v then some (gCost v (10 * a + b) d) else none
  | 4 => if c + d = 0 ∧ wtN v (10 * a + b) = 0 then some (gRev v (10 * a + b)) else none
  | 5 => if c + d = 0 ∧ a < 4 ∧ b < 4 then some (gSwp v a b) else none
  | _ => none
theorem cgG_1 (v : Gr) (a b c d : Nat) : cgG v 1 a b c d = if gWhy v (nI a) (nI b) (nI c) (nI d) = 0 then some (gPut v a b c d) else none := by unfold cgG; rfl
theorem cgG_2 (v : Gr) (a b c d : Nat) : cgG v 2 a b c d = if c + d = 0 ∧ 10 * a + b < gN v then some (gDrop v (10 * a + b)) else none := by unfold cgG; rfl
theorem cgG_3 (v : Gr) (a b c d : Nat) : cgG v 3 a b c d = if (c = 0 ∧ ¬ d = 0) ∧ 10 * a + b < gN v then some (gCost v (10 * a + b) d) else none := by unfold cgG; rfl
theorem cgG_4 (v : Gr) (a b c d : Nat) : cgG v 4 a b c d = if c + d = 0 ∧ wtN v (10 * a + b) = 0 then some (gRev v (10 * a + b)) else none := by unfold cgG; rfl
theorem cgG_5 (v : Gr) (a b c d : Nat) : cgG v 5 a b c d = if c + d = 0 ∧ a < 4 ∧ b < 4 then some (gSwp v a b) else none := by unfold cgG; rfl
theorem cgG_0 (v : Gr) (a b c d : Nat) : cgG v 0 a b c d = none := by unfold cgG; rfl
theorem cgG_6 (v : Gr) (a b c d : Nat) : cgG v 6 a b c d = none := by unfold cgG; rfl
theorem cgG_7 (v : Gr) (a b c d : Nat) : cgG v 7 a b c d = none := by unfold cgG; rfl
theorem cgG_8 (v : Gr) (a b c d : Nat) : cgG v 8 a b c d = none := by unfold cgG; rfl
theorem cgG_9 (v : Gr) (a b c d : Nat) : cgG v 9 a b c d = none := by unfold cgG; rfl
def cmV (v : Gr) (ho a b c d : Nat) : Gr := (cgG v ho a b c d).getD v
section
variable {I I1 : mx_I} {m ho a b c d : Nat} {x : Vl}
end
theorem onM_le (x : Nat) : ∀ n, onM x n ≤ n
  | 0 => Nat.le_refl _
  | n + 1 => by
    have := onM_le x n
    show onM x n + _ ≤ n + 1
    split <;> omega
def fl_runScript (n : Int32) (sc : Int64) : Nat := if ¬ (1 ≤ n.toInt ∧ n.toInt ≤ 3) then 2 else if ¬ (0 ≤ sc.toInt ∧ sc.toInt < ((100000 ^ n.toInt.toNat : Nat) : Int)) then 2 else 0
theorem q100k {n : Nat} (h : n ≤ 3) : 100000 ^ n < 2 ^ 63 := Nat.lt_of_le_of_lt (Nat.pow_le_pow_right (by decide) h) (by decide)
/-! of 49.msim -/
def lcN (x : Int64) : Nat → Int64
  | 0 => x
  | j + 1 => lcN x j * 6364136223846793005 + 1442695040888963407
def lcr (x : Int64) : Nat := (x.toUInt64 >>> 33).toNat
theorem lcr_lt (x : Int64) : lcr x < 2 ^ 31 := by
  unfold lcr
  rw [UInt64.toNat_shiftRight, Nat.shiftRight_eq_div_pow]
  have h := UInt64.toNat_lt x.toUInt64
  exact Nat.div_lt_of_lt_mul h
theorem u_iN (u : UInt64) : u.toInt64 = lN u.toNat := congrArg UInt64.toInt64 (UInt64.ofNat_toNat (x := u)).symm
theorem lcr_i (x : Int64) : ((x.toUInt64 >>> ((nI 33 : Int32).toInt64.toUInt64 &&& Int64.toUInt64 63)).toInt64).toInt32 = nI (lcr x) := by
  rw [show (nI 33 : Int32).toInt64.toUInt64 &&& Int64.toUInt64 63 = 33 by decide, u_iN]
  exact lN_i _
theorem oI_gd {x : Option Nat} (h : ¬ oI x = -9) : oI x = nI (x.getD 0) := by
  cases x with
  | none => exact absurd rfl h
  | some y => rfl
def fl_simulate (dm : Int32) : Nat := if ¬ (1 ≤ dm.toInt ∧ dm.toInt ≤ 20) then 2 else 0
