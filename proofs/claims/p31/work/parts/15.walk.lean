/-! BestPath: goings, the walk -/
def gfm (rs : Nat → Nat) (p : Nat) : Option Nat := if rs (p * 21) = 387072 then none else some (rs (p * 21) % 256)
theorem gfm_lt {rs : Nat → Nat} {p z : Nat} (h : gfm rs p = some z) : z < 256 := by
  unfold gfm at h
  split at h
  · cases h
  · cases h; exact Nat.mod_lt _ (by decide)
def lvB (rs : Nat → Nat) (a set k lf : Nat) : Nat → Nat
  | 0 => 0
  | i + 1 => lvB rs a set k lf i ||| (if set.testBit i = true ∧ rs (a * 21 + i) + k = lf then 2 ^ i else 0)
theorem lvB_up {rs : Nat → Nat} {a set k lf i : Nat} (h : ∀ j, i ≤ j → set.testBit j = false) : ∀ n, i ≤ n → lvB rs a set k lf n = lvB rs a set k lf i := by
  intro n hn
  induction n with
  | zero => rw [show i = 0 by omega]
  | succ n ih =>
    by_cases e : i = n + 1
    · rw [e]
    · rw [lvB, h n (by omega), if_neg (fun q => Bool.noConfusion q.1), Nat.or_zero]
      exact ih (by omega)
theorem lvB_lt {rs : Nat → Nat} {a set k lf : Nat} : ∀ i, i ≤ 21 → lvB rs a set k lf i < 2 ^ 21
  | 0, _ => Nat.two_pow_pos 21
  | i + 1, h => by
    unfold lvB
    refine mx_or_lt (lvB_lt i (by omega)) ?_
    split
    · exact Nat.pow_lt_pow_right (by decide) (by omega)
    · exact Nat.two_pow_pos 21
theorem lvB_le {rs : Nat → Nat} {a set k lf : Nat} (h : lf < k) : ∀ i, lvB rs a set k lf i = 0
  | 0 => rfl
  | i + 1 => by rw [lvB, lvB_le h i, if_neg (by omega)]; rfl
abbrev Wk : Type := Nat × Nat × Nat
/-- one going tried: where it leads, if it is one of the best path's -/
def gw (v : Gr) (A : Pa) (rs : Nat → Nat) (x : Wk) (s d : Nat) : Option Wk :=
  if (if d = 0 then gF v s else gT v s) = x.1 then
    (if lvB rs (if d = 0 then gT v s else gF v s) (pFol A x.2.1 &&& pEn A d (gK v s)) (256 * gC v s + 1) x.2.2 21 = 0 then none
     else some (if d = 0 then gT v s else gF v s, lvB rs (if d = 0 then gT v s else gF v s) (pFol A x.2.1 &&& pEn A d (gK v s)) (256 * gC v s + 1) x.2.2 21, x.2.2 - (256 * gC v s + 1)))
  else none
def wkN (I : mx_I) (o : Nat) (x : Wk) : Prop := I o 3 = nI x.1 ∧ I o 4 = nI x.2.1 ∧ I o 5 = nI x.2.2
def wkB (x : Wk) : Prop := x.1 < 8 ∧ x.2.1 < 2 ^ 21 ∧ x.2.2 ≤ 387072
theorem gw_B {v : Gr} {A : Pa} {rs : Nat → Nat} {x y : Wk} {s d : Nat} (hv : wfG v) (hs : s < gN v) (hx : wkB x) (h : gw v A rs x s d = some y) : wkB y := by
  unfold gw at h
  have hb := hv.2.2 s hs
  by_cases c1 : (if d = 0 then gF v s else gT v s) = x.1
  · rw [if_pos c1] at h
    by_cases c2 : lvB rs (if d = 0 then gT v s else gF v s) (pFol A x.2.1 &&& pEn A d (gK v s)) (256 * gC v s + 1) x.2.2 21 = 0
    · rw [if_pos c2] at h; cases h
    · rw [if_neg c2] at h
      have h := Option.some.inj h
      subst h
      refine ⟨?_, lvB_lt 21 (Nat.le_refl _), ?_⟩
      · show (if d = 0 then gT v s else gF v s) < 8
        split <;> omega
      · have := hx.2.2
        show x.2.2 - _ ≤ _
        omega
  · rw [if_neg c1] at h; cases h
def avF (v : Gr) (A : Pa) (rs : Nat → Nat) (x : Wk) : Nat → Nat → Option (Nat × Wk)
  | 0, _ => none
  | f + 1, s => match gw v A rs x s 0 with
    | some y => some (10 * s + 0, y)
    | none => match gw v A rs x s 1 with
      | some y => some (10 * s + 1, y)
      | none => avF v A rs x f (s + 1)
def av (v : Gr) (A : Pa) (rs : Nat → Nat) (x : Wk) : Option (Nat × Wk) := avF v A rs x (gN v) 0
theorem avF_B {v : Gr} {A : Pa} {rs : Nat → Nat} {x : Wk} (hv : wfG v) (hx : wkB x) : ∀ (f s : Nat) (y : Nat × Wk), s + f ≤ gN v → avF v A rs x f s = some y → wkB y.2 ∧ y.1 < 10 * gN v
  | 0, _, _, _, h => by cases h
  | f + 1, s, y, hf, h => by
    unfold avF at h
    cases e0 : gw v A rs x s 0 with
    | some z =>
      rw [e0] at h
      cases h
      exact ⟨gw_B hv (by omega) hx e0, by show 10 * s + 0 < _; omega⟩
    | none =>
      rw [e0] at h
      cases e1 : gw v A rs x s 1 with
      | some z =>
        rw [e1] at h
        cases h
        exact ⟨gw_B hv (by omega) hx e1, by show 10 * s + 1 < _; omega⟩
      | none =>
        rw [e1] at h
        exact avF_B hv hx f (s + 1) y (by omega) h
def gaI (v : Gr) (A : Pa) (rs : Nat → Nat) (x : Wk) : Nat → Option Nat × Wk
  | 0 => (none, x)
  | n + 1 => match av v A rs (gaI v A rs x n).2 with
    | none => (none, (gaI v A rs x n).2)
    | some y => (some y.1, y.2)
theorem gaI_B {v : Gr} {A : Pa} {rs : Nat → Nat} {x : Wk} (hv : wfG v) (hx : wkB x) : ∀ n, wkB (gaI v A rs x n).2
  | 0 => hx
  | n + 1 => by
    have ih := gaI_B (A := A) (rs := rs) hv hx n
    unfold gaI
    cases e : av v A rs (gaI v A rs x n).2 with
    | none => exact ih
    | some y => exact (avF_B hv ih _ _ _ (by omega) e).1
theorem gaI_s (v : Gr) (A : Pa) (rs : Nat → Nat) (x : Wk) (n : Nat) : gaI v A rs x (n + 1) = match av v A rs (gaI v A rs x n).2 with
    | none => (none, (gaI v A rs x n).2)
    | some y => (some y.1, y.2) := rfl
theorem gaI_fst (v : Gr) (A : Pa) (rs : Nat → Nat) (x : Wk) (n : Nat) : (gaI v A rs x (n + 1)).1 = (av v A rs (gaI v A rs x n).2).map Prod.fst := by
  rw [gaI_s]
  cases av v A rs (gaI v A rs x n).2 <;> rfl
theorem gaI_wk {v : Gr} {A : Pa} {rs : Nat → Nat} {x : Wk} {n o : Nat} {I1 I3 : mx_I} (m1 : av v A rs (gaI v A rs x n).2 = none → I3 = I1) (m2 : ∀ y, av v A rs (gaI v A rs x n).2 = some y → wkN I3 o y.2) (h : wkN I1 o (gaI v A rs x n).2) : wkN I3 o (gaI v A rs x (n + 1)).2 := by
  rw [gaI_s]
  cases e : av v A rs (gaI v A rs x n).2 with
  | none => rw [m1 e]; exact h
  | some y => exact m2 y e
theorem av_at {v : Gr} {A : Pa} {rs : Nat → Nat} {x y : Wk} {s d : Nat} (hx : av v A rs x = avF v A rs x (gN v - s) s) (hs : s < gN v) (hd : d < 2) (hg : ∀ j, j < d → gw v A rs x s j = none) (hy : gw v A rs x s d = some y) : av v A rs x = some (10 * s + d, y) := by
  rw [hx, show gN v - s = gN v - (s + 1) + 1 by omega, avF]
  rcases (show d = 0 ∨ d = 1 by omega) with rfl | rfl
  · rw [hy]
  · rw [hg 0 (by decide), hy]
theorem oI_lt_nat {x : Option Nat} (h : ∀ z, x = some z → z < 2 ^ 31) (i : Nat) : ((i : Int) < (oI x).toInt) ↔ ∃ n, x = some n ∧ i < n := by
  cases x with
  | none =>
    have e : (oI none).toInt = -9 := by decide
    rw [e]
    exact ⟨fun q => by omega, fun ⟨n, hn, _⟩ => nomatch hn⟩
  | some z =>
    have e : (oI (some z)).toInt = (z : Int) := nI_toInt (h z rfl)
    rw [e]
    exact ⟨fun q => ⟨z, rfl, by omega⟩, fun ⟨n, hn, hi⟩ => by cases hn; omega⟩
/-- going i of the best path from p -/
def gAt (v : Gr) (A : Pa) (rs : Nat → Nat) (p i : Nat) : Option Nat := match gfm rs p with
  | none => none
  | some n => if i < n then (gaI v A rs (p, 1, rs (p * 21)) (i + 1)).1 else none
theorem gfm_ge {x : Option Nat} {m : Nat} (h : ¬ x = none) (h2 : ¬ ∃ n, x = some n ∧ m < n) : x.getD 0 ≤ m := by
  cases x with
  | none => exact absurd rfl h
  | some z => exact Nat.not_lt.mp (fun q => h2 ⟨z, rfl, q⟩)
theorem gfm_gt {x : Option Nat} {m : Nat} (h2 : ∃ n, x = some n ∧ m < n) (h : x.getD 0 ≤ m) : False := by
  obtain ⟨n, rfl, h3⟩ := h2
  exact Nat.not_lt.mpr h h3
theorem i32_sub {a b c : Int32} : a = b - c ↔ a + c = b := by
  constructor
  · rintro rfl; exact Int32.sub_add_cancel b c
  · rintro rfl; exact (Int32.add_sub_cancel a c).symm
theorem mx_lf {r k lf : Nat} (hr : r ≤ 387072) (hk : k ≤ 4096) (hl : lf ≤ 387072) : nI r = nI lf - nI k - nI 1 ↔ r + (k + 1) = lf := by
  rw [i32_sub, i32_sub, nI_add, nI_add, nI_eq (by omega) (by omega)]
  omega

set_option maxHeartbeats 4000000 in
set_option maxRecDepth 100000 in
theorem ct_goingsFrom (G : mx_G) (I : mx_I) (o : Nat) (hs : oBP G o) (rs : Nat → Nat) (hrs : arN I (o + 1) rs 168) (hrb : ∀ j, rs j ≤ 387072) (p : Nat) (hp : p < 8) : mx_CTp yX0_goingsFrom mX0_goingsFrom 1 [.ref o, .int (nI p)] G I (some (.int (oI (gfm rs p)))) := by
  refine mx_start (k := 1) (by decide) rfl rfl (fun h => nomatch h) (Nat.le_of_ble_eq_true rfl) ?_
  show mx_V mX0_goingsFrom mx_S0 1 0 0 0 [some (.ref o), some (.int (nI p)), none] [] G I (fun rv Gz Iz => rv = some (.int (oI (gfm rs p))) ∧ Gz = G ∧ Iz = I) (fun _ _ _ => False)
  obtain ⟨ha0, ⟨ha1, ha2, ha3⟩, ⟨ha4, ha5, ha6⟩, ha7, hwh⟩ := hs
  have hwh0 := hwh
  obtain ⟨hw0, hw1, hw2, hw3⟩ := hwh
  refine mx_aload_n (i := 0) (hi := rfl) (hl := rfl) (hd := dX0_goingsFrom_0) ?_
  refine mx_getR (ci := 0) (k := 0) (r := (o + 1)) dX0_goingsFrom_1 k_277 (by decide) rfl (by assumption) (by assumption) (by omega) ?_
  refine mx_iload_n (i := 1) (hi := rfl) (hl := rfl) (hd := dX0_goingsFrom_4) ?_
  refine mx_bipushN 21 dX0_goingsFrom_5 (by decide) ?_
  refine mx_imulN dX0_goingsFrom_7 ?_
  refine mx_ialdV (p * 21) (nI (rs (p * 21))) dX0_goingsFrom_8 (by assumption) ⟨rfl, by omega, by omega⟩ (hrs _ (by omega)) ?_
  refine mx_istoreE_n (i := 2) (ls' := [some (.ref o), some (.int (nI p)), some (.int (nI (rs (p * 21))))]) (hi := rfl) (hd := dX0_goingsFrom_9) (hn := by decide) (hok := rfl) (hls := rfl) ?_
  refine mx_iload_n (i := 2) (hi := rfl) (hl := rfl) (hd := dX0_goingsFrom_10) ?_
  refine mx_ldc (v := (387072)) k_591 dX0_goingsFrom_11 ?_
  refine mx_top (y := nI 387072) (by decide) ?_
  refine mx_cmpN_ne 21 dX0_goingsFrom_13 (by decide) (by have := hrb (p * 21); omega) (by decide) (fun c13 => ?_) (fun c13 => ?_)
  · skip
    refine mx_iload_n (i := 2) (hi := rfl) (hl := rfl) (hd := dX0_goingsFrom_21) ?_
    refine mx_sipushN 256 dX0_goingsFrom_22 (by decide) ?_
    refine mx_iremN dX0_goingsFrom_25 (by have := hrb (p * 21); omega) (by decide) ?_
    exact mx_iret dX0_goingsFrom_26 rfl rfl (⟨by unfold gfm; rw [if_neg c13]; rfl, rfl, rfl⟩)
  · skip
    refine mx_bipush (v := (-9)) (by decide) dX0_goingsFrom_16 ?_
    refine mx_goto (tgt := 26) dX0_goingsFrom_18 (by decide) ?_
    exact mx_iret dX0_goingsFrom_26 rfl rfl (⟨by unfold gfm; rw [if_pos c13]; rfl, rfl, rfl⟩)

set_option maxHeartbeats 4000000 in
set_option maxRecDepth 100000 in
theorem ct_leaving (G : mx_G) (I : mx_I) (o : Nat) (hs : oBP G o) (rs : Nat → Nat) (hrs : arN I (o + 1) rs 168) (hrb : ∀ j, rs j ≤ 387072) (a set k lf : Nat) (x : Int32) (ha8 : a < 8) (hset : set < 2 ^ 21) (hx : ∀ r, r ≤ 387072 → (nI r = x ↔ r + k = lf)) : mx_CTp yX0_leaving mX0_leaving 1 [.ref o, .int (nI a), .int (nI set), .int x] G I (some (.int (nI (lvB rs a set k lf 21)))) := by
  refine mx_start (k := 2) (by decide) rfl rfl (fun h => nomatch h) (Nat.le_of_ble_eq_true rfl) ?_
  show mx_V mX0_leaving mx_S0 1 0 0 0 [some (.ref o), some (.int (nI a)), some (.int (nI set)), some (.int x), none, none] [] G I (fun rv Gz Iz => rv = some (.int (nI (lvB rs a set k lf 21))) ∧ Gz = G ∧ Iz = I) (fun _ _ _ => False)
  obtain ⟨ha0, ⟨ha1, ha2, ha3⟩, ⟨ha4, ha5, ha6⟩, ha7, hwh⟩ := hs
  have hwh0 := hwh
  obtain ⟨hw0, hw1, hw2, hw3⟩ := hwh
  have L6 : ∀ (fq : Nat) (i n : Nat), 21 - i < fq → (i ≤ 21) → (n = lvB rs a set k lf i) → mx_V mX0_leaving mx_S0 1 0 0 6 [some (.ref o), some (.int (nI a)), some (.int (nI set)), some (.int x), some (.int (nI n)), some (.int (nI i))] [] G I (fun rv Gz Iz => rv = some (.int (nI (lvB rs a set k lf 21))) ∧ Gz = G ∧ Iz = I) (fun _ _ _ => False) := by
    intro fq
    induction fq with
    | zero => intro i n hfu; exact absurd hfu (Nat.not_lt_zero _)
    | succ fq ih =>
      intro i n hfu hi hn
      refine mx_iload (i := 5) (hl := rfl) (hd := dX0_leaving_6) ?_
      refine mx_bipushN 21 dX0_leaving_8 (by decide) ?_
      refine mx_cmpN_ge 60 dX0_leaving_10 (by decide) (by omega) (by omega) (fun c10 => ?_) (fun c10 => ?_)
      · skip
        refine mx_iload (i := 4) (hl := rfl) (hd := dX0_leaving_60) ?_
        exact mx_iret dX0_leaving_62 rfl rfl (⟨by rw [hn]; refine congrArg (fun z => some (Value.int (nI z))) (Eq.symm ?_); first | exact congrArg _ (show 21 = i by omega) | exact lvB_up (fun j hj => mx_shr0 c17 hj) 21 hi, rfl, rfl⟩)
      · skip
        refine mx_iload_n (i := 2) (hi := rfl) (hl := rfl) (hd := dX0_leaving_13) ?_
        refine mx_iload (i := 5) (hl := rfl) (hd := dX0_leaving_14) ?_
        refine mx_ishrN dX0_leaving_16 (by omega) (by omega) ?_
        refine mx_ifN_eq 60 dX0_leaving_17 (by decide) (mx_shr_lt (by omega)) (fun c17 => ?_) (fun c17 => ?_)
        · skip
          refine mx_iload (i := 4) (hl := rfl) (hd := dX0_leaving_60) ?_
          exact mx_iret dX0_leaving_62 rfl rfl (⟨by rw [hn]; refine congrArg (fun z => some (Value.int (nI z))) (Eq.symm ?_); first | exact congrArg _ (show 21 = i by omega) | exact lvB_up (fun j hj => mx_shr0 c17 hj) 21 hi, rfl, rfl⟩)
        · skip
          refine mx_iload_n (i := 2) (hi := rfl) (hl := rfl) (hd := dX0_leaving_20) ?_
          refine mx_iload (i := 5) (hl := rfl) (hd := dX0_leaving_21) ?_
          refine mx_ishrN dX0_leaving_23 (by omega) (by omega) ?_
          refine mx_iconstN 1 dX0_leaving_24 (by decide) ?_
          refine mx_iandN dX0_leaving_25 ?_
          refine mx_top (mx_bit _ _) ?_
          refine mx_ifB_eq 54 dX0_leaving_26 (by decide) (fun c26 => ?_) (fun c26 => ?_)
          · skip
            refine mx_iincE (i := 5) (ls' := [some (.ref o), some (.int (nI a)), some (.int (nI set)), some (.int x), some (.int (nI n)), some (.int (nI (i + 1)))]) 1 dX0_leaving_54 rfl (by decide) (by decide) rfl rfl ?_
            refine mx_goto (tgt := 6) dX0_leaving_57 (by decide) ?_
            exact ih (i + 1) _ (by omega) (by omega) (by rw [hn, lvB, if_neg (by first | exact fun z => c26 z.1 | exact fun z => c42 ((hx _ (hrb _)).mpr z.2)), Nat.or_zero])
          · skip
            refine mx_aload_n (i := 0) (hi := rfl) (hl := rfl) (hd := dX0_leaving_29) ?_
            refine mx_getR (ci := 0) (k := 0) (r := (o + 1)) dX0_leaving_30 k_277 (by decide) rfl (by assumption) (by assumption) (by omega) ?_
            refine mx_iload_n (i := 1) (hi := rfl) (hl := rfl) (hd := dX0_leaving_33) ?_
            refine mx_bipushN 21 dX0_leaving_34 (by decide) ?_
            refine mx_imulN dX0_leaving_36 ?_
            refine mx_iload (i := 5) (hl := rfl) (hd := dX0_leaving_37) ?_
            refine mx_iaddN dX0_leaving_39 ?_
            refine mx_ialdV ((a * 21) + i) (nI (rs ((a * 21) + i))) dX0_leaving_40 (by assumption) ⟨rfl, by omega, by omega⟩ (hrs _ (by omega)) ?_
            refine mx_iload_n (i := 3) (hi := rfl) (hl := rfl) (hd := dX0_leaving_41) ?_
            refine mx_icmp_ne (tgt := 54) dX0_leaving_42 (by decide) (fun c42 => ?_) (fun c42 => ?_)
            · skip
              refine mx_iincE (i := 5) (ls' := [some (.ref o), some (.int (nI a)), some (.int (nI set)), some (.int x), some (.int (nI n)), some (.int (nI (i + 1)))]) 1 dX0_leaving_54 rfl (by decide) (by decide) rfl rfl ?_
              refine mx_goto (tgt := 6) dX0_leaving_57 (by decide) ?_
              exact ih (i + 1) _ (by omega) (by omega) (by rw [hn, lvB, if_neg (by first | exact fun z => c26 z.1 | exact fun z => c42 ((hx _ (hrb _)).mpr z.2)), Nat.or_zero])
            · skip
              refine mx_iload (i := 4) (hl := rfl) (hd := dX0_leaving_45) ?_
              refine mx_iconstN 1 dX0_leaving_47 (by decide) ?_
              refine mx_iload (i := 5) (hl := rfl) (hd := dX0_leaving_48) ?_
              refine mx_ishl1N dX0_leaving_50 (by omega) ?_
              refine mx_iorN dX0_leaving_51 ?_
              refine mx_istoreE (i := 4) (ls' := [some (.ref o), some (.int (nI a)), some (.int (nI set)), some (.int x), some (.int (nI (n ||| (2 ^ i)))), some (.int (nI i))]) (hd := dX0_leaving_52) (hn := by decide) (hok := rfl) (hls := rfl) ?_
              refine mx_iincE (i := 5) (ls' := [some (.ref o), some (.int (nI a)), some (.int (nI set)), some (.int x), some (.int (nI (n ||| (2 ^ i)))), some (.int (nI (i + 1)))]) 1 dX0_leaving_54 rfl (by decide) (by decide) rfl rfl ?_
              refine mx_goto (tgt := 6) dX0_leaving_57 (by decide) ?_
              exact ih (i + 1) _ (by omega) (by omega) (by rw [hn, lvB, if_pos ⟨c26, (hx _ (hrb _)).mp c42⟩])
  refine mx_iconstN 0 dX0_leaving_0 (by decide) ?_
  refine mx_istoreE (i := 4) (ls' := [some (.ref o), some (.int (nI a)), some (.int (nI set)), some (.int x), some (.int (nI 0)), none]) (hd := dX0_leaving_1) (hn := by decide) (hok := rfl) (hls := rfl) ?_
  refine mx_iconstN 0 dX0_leaving_3 (by decide) ?_
  refine mx_istoreE (i := 5) (ls' := [some (.ref o), some (.int (nI a)), some (.int (nI set)), some (.int x), some (.int (nI 0)), some (.int (nI 0))]) (hd := dX0_leaving_4) (hn := by decide) (hok := rfl) (hls := rfl) ?_
  exact L6 _ 0 0 (Nat.lt_succ_self _) (by decide) rfl

set_option maxHeartbeats 4000000 in
set_option maxRecDepth 100000 in
theorem ct_goes (G : mx_G) (I : mx_I) (o : Nat) (hs : oBP G o) (q pt : Nat) (v : Gr) (A : Pa) (he : env G I q pt v A) (rs : Nat → Nat) (hrs : arN I (o + 1) rs 168) (hrb : ∀ j, rs j ≤ 387072) (x : Wk) (hwk : wkN I o x) (hwb : wkB x) (s d : Nat) (hsn : s < gN v) (hd : d < 2) : mx_CTi yX0_goes mX0_goes 3 [.ref o, .ref q, .int (nI s), .int (nI d)] G I (fun rv I1 => rv = some (.int (mx_b (gw v A rs x s d).isSome)) ∧ (gw v A rs x s d = none → I1 = I) ∧ (∀ y, gw v A rs x s d = some y → wkN I1 o y) ∧ mx_fr I I1 o (o + 1)) := by
  refine mx_start (k := 4) (by decide) rfl rfl (fun h => nomatch h) (Nat.le_of_ble_eq_true rfl) ?_
  show mx_V mX0_goes mx_S0 3 0 0 0 [some (.ref o), some (.ref q), some (.int (nI s)), some (.int (nI d)), none, none, none, none] [] G I (fun rv Gz Iz => (fun rv I1 => rv = some (.int (mx_b (gw v A rs x s d).isSome)) ∧ (gw v A rs x s d = none → I1 = I) ∧ (∀ y, gw v A rs x s d = some y → wkN I1 o y) ∧ mx_fr I I1 o (o + 1)) rv Iz ∧ Gz = G) (fun _ _ _ => False)
  have he0 := he
  have hs0 := hs
  have hwp := he.2.2.2.2.1
  obtain ⟨hsq, hsp, hrp, hvq, hvp⟩ := he
  have hsp0 := hsp
  have hvp0 := hvp
  have hsq0 := hsq
  have hvq0 := hvq
  obtain ⟨hg0, ⟨hg2, hg3, hg4⟩, ⟨hg5, hg6, hg7⟩, ⟨hg8, hg9, hg10⟩, ⟨hg11, hg12, hg13⟩⟩ := hsq
  obtain ⟨⟨hP, hN, hb⟩, hv0, hv1, hF, hK, hT, hC⟩ := hvq
  obtain ⟨hp0, ⟨hp2, hp3, hp4⟩, ⟨hp5, hp6, hp7⟩, ⟨hp8, hp9, hp10⟩, ⟨hp11, hp12, hp13⟩⟩ := hsp
  obtain ⟨⟨hwL, hwA, hwB, hwE, hwc, hwz, hwx⟩, hu1, hu2, hu6, hCh, hA, hB, hE⟩ := hvp
  obtain ⟨ha0, ⟨ha1, ha2, ha3⟩, ⟨ha4, ha5, ha6⟩, ha7, hwh⟩ := hs
  have hwh0 := hwh
  obtain ⟨hw0, hw1, hw2, hw3⟩ := hwh
  have hbs := hb s hsn
  refine mx_aload_n (i := 1) (hi := rfl) (hl := rfl) (hd := dX0_goes_0) ?_
  refine mx_iload_n (i := 2) (hi := rfl) (hl := rfl) (hd := dX0_goes_1) ?_
  refine mx_iload_n (i := 3) (hi := rfl) (hl := rfl) (hd := dX0_goes_2) ?_
  refine mx_callVp (ci := 6) (As := [.int (nI s), .int (nI d)]) (rest := []) dX0_goes_3 (ct_beginOf G I q v hsq0 hvq0 s d hsn (by omega)) km_X6_beginOf rfl k_898 k_899 k_900 (by assumption) rfl rfl (Nat.le_of_ble_eq_true rfl) (by decide) ?_
  refine mx_aload_n (i := 0) (hi := rfl) (hl := rfl) (hd := dX0_goes_6) ?_
  refine mx_getV (ci := 0) (k := 3) (nI x.1) dX0_goes_7 k_280 (by decide) rfl (by assumption) hwk.1 ?_
  refine mx_cmpN_eq 15 dX0_goes_10 (by decide) (by split <;> omega) (by have := hwb.1; omega) (fun c10 => ?_) (fun c10 => ?_)
  · skip
    refine mx_aload_n (i := 1) (hi := rfl) (hl := rfl) (hd := dX0_goes_15) ?_
    refine mx_iload_n (i := 2) (hi := rfl) (hl := rfl) (hd := dX0_goes_16) ?_
    refine mx_iload_n (i := 3) (hi := rfl) (hl := rfl) (hd := dX0_goes_17) ?_
    refine mx_callVp (ci := 6) (As := [.int (nI s), .int (nI d)]) (rest := []) dX0_goes_18 (ct_endOf G I q v hsq0 hvq0 s d hsn (by omega)) km_X6_endOf rfl k_902 k_903 k_904 (by assumption) rfl rfl (Nat.le_of_ble_eq_true rfl) (by decide) ?_
    refine mx_istoreE (i := 4) (ls' := [some (.ref o), some (.ref q), some (.int (nI s)), some (.int (nI d)), some (.int (nI (if d = 0 then gT v s else gF v s))), none, none, none]) (hd := dX0_goes_21) (hn := by decide) (hok := rfl) (hls := rfl) ?_
    refine mx_aload_n (i := 0) (hi := rfl) (hl := rfl) (hd := dX0_goes_23) ?_
    refine mx_getV (ci := 0) (k := 5) (nI x.2.2) dX0_goes_24 k_282 (by decide) rfl (by assumption) hwk.2.2 ?_
    refine mx_sipushN 256 dX0_goes_27 (by decide) ?_
    refine mx_aload_n (i := 1) (hi := rfl) (hl := rfl) (hd := dX0_goes_30) ?_
    refine mx_getR (ci := 6) (k := 5) (r := (q + 4)) dX0_goes_31 k_189 (by decide) rfl (by assumption) (by assumption) (by omega) ?_
    refine mx_iload_n (i := 2) (hi := rfl) (hl := rfl) (hd := dX0_goes_34) ?_
    refine mx_ialdV s (nI (gC v s)) dX0_goes_35 (by assumption) ⟨rfl, by omega, by omega⟩ (hC s (by omega)) ?_
    refine mx_imulN dX0_goes_36 ?_
    refine mx_isub dX0_goes_37 ?_
    refine mx_iconstN 1 dX0_goes_38 (by decide) ?_
    refine mx_isub dX0_goes_39 ?_
    refine mx_istoreE (i := 5) (ls' := [some (.ref o), some (.ref q), some (.int (nI s)), some (.int (nI d)), some (.int (nI (if d = 0 then gT v s else gF v s))), some (.int (((nI x.2.2) - (nI (256 * (gC v s)))) - (nI 1))), none, none]) (hd := dX0_goes_40) (hn := by decide) (hok := rfl) (hls := rfl) ?_
    refine mx_aload_n (i := 1) (hi := rfl) (hl := rfl) (hd := dX0_goes_42) ?_
    refine mx_aload_n (i := 1) (hi := rfl) (hl := rfl) (hd := dX0_goes_43) ?_
    refine mx_getR (ci := 6) (k := 6) (r := pt) dX0_goes_44 k_192 (by decide) rfl (by assumption) (by assumption) (by omega) ?_
    refine mx_aload_n (i := 0) (hi := rfl) (hl := rfl) (hd := dX0_goes_47) ?_
    refine mx_getV (ci := 0) (k := 4) (nI x.2.1) dX0_goes_48 k_281 (by decide) rfl (by assumption) hwk.2.1 ?_
    refine mx_callVp (ci := 2) (As := [.int (nI x.2.1)]) (rest := [.ref q]) dX0_goes_51 (ct_following G I pt A hsp0 hvp0 x.2.1 hwb.2.1) km_X2_following rfl k_906 k_567 k_568 (by assumption) rfl rfl (Nat.le_of_ble_eq_true rfl) (by decide) ?_
    refine mx_iload_n (i := 2) (hi := rfl) (hl := rfl) (hd := dX0_goes_54) ?_
    refine mx_iload_n (i := 3) (hi := rfl) (hl := rfl) (hd := dX0_goes_55) ?_
    refine mx_callVp (ci := 6) (As := [.int (nI (pFol A x.2.1)), .int (nI s), .int (nI d)]) (rest := []) dX0_goes_56 (ct_enter G I q pt v A he0 (pFol A x.2.1) s d hsn hd) km_X6_enter rfl k_606 k_575 k_576 (by assumption) rfl rfl (Nat.le_of_ble_eq_true rfl) (by decide) ?_
    refine mx_istoreE (i := 6) (ls' := [some (.ref o), some (.ref q), some (.int (nI s)), some (.int (nI d)), some (.int (nI (if d = 0 then gT v s else gF v s))), some (.int (((nI x.2.2) - (nI (256 * (gC v s)))) - (nI 1))), some (.int (nI (pFol A x.2.1 &&& pEn A d (gK v s)))), none]) (hd := dX0_goes_59) (hn := by decide) (hok := rfl) (hls := rfl) ?_
    refine mx_aload_n (i := 0) (hi := rfl) (hl := rfl) (hd := dX0_goes_61) ?_
    refine mx_iload (i := 4) (hl := rfl) (hd := dX0_goes_62) ?_
    refine mx_iload (i := 6) (hl := rfl) (hd := dX0_goes_64) ?_
    refine mx_iload (i := 5) (hl := rfl) (hd := dX0_goes_66) ?_
    refine mx_callVp (ci := 0) (As := [.int (nI (if d = 0 then gT v s else gF v s)), .int (nI (pFol A x.2.1 &&& pEn A d (gK v s))), .int (((nI x.2.2) - (nI (256 * (gC v s)))) - (nI 1))]) (rest := []) dX0_goes_68 (ct_leaving G I o hs0 rs hrs hrb (if d = 0 then gT v s else gF v s) (pFol A x.2.1 &&& pEn A d (gK v s)) (256 * gC v s + 1) x.2.2 (nI x.2.2 - nI (256 * gC v s) - nI 1) (by split <;> omega) (mx_and_lt (pFol_lt hwp _)) (fun r hr => mx_lf hr (by omega) hwb.2.2)) km_X0_leaving rfl k_907 k_909 k_26 (by assumption) rfl rfl (Nat.le_of_ble_eq_true rfl) (by decide) ?_
    refine mx_istoreE (i := 7) (ls' := [some (.ref o), some (.ref q), some (.int (nI s)), some (.int (nI d)), some (.int (nI (if d = 0 then gT v s else gF v s))), some (.int (((nI x.2.2) - (nI (256 * (gC v s)))) - (nI 1))), some (.int (nI (pFol A x.2.1 &&& pEn A d (gK v s)))), some (.int (nI (lvB rs (if d = 0 then gT v s else gF v s) (pFol A x.2.1 &&& pEn A d (gK v s)) (256 * gC v s + 1) x.2.2 21)))]) (hd := dX0_goes_71) (hn := by decide) (hok := rfl) (hls := rfl) ?_
    refine mx_iload (i := 7) (hl := rfl) (hd := dX0_goes_73) ?_
    refine mx_ifN_ne 80 dX0_goes_75 (by decide) (by have := lvB_lt (rs := rs) (a := (if d = 0 then gT v s else gF v s)) (set := pFol A x.2.1 &&& pEn A d (gK v s)) (k := 256 * gC v s + 1) (lf := x.2.2) 21 (Nat.le_refl _); omega) (fun c75 => ?_) (fun c75 => ?_)
    · skip
      refine mx_aload_n (i := 0) (hi := rfl) (hl := rfl) (hd := dX0_goes_80) ?_
      refine mx_iload (i := 4) (hl := rfl) (hd := dX0_goes_81) ?_
      refine mx_putI (ci := 0) (k := 3) dX0_goes_83 k_280 (by decide) rfl rfl rfl rfl (by assumption) ?_
      refine mx_aload_n (i := 0) (hi := rfl) (hl := rfl) (hd := dX0_goes_86) ?_
      refine mx_iload (i := 7) (hl := rfl) (hd := dX0_goes_87) ?_
      refine mx_putI (ci := 0) (k := 4) dX0_goes_89 k_281 (by decide) rfl rfl rfl rfl (by assumption) ?_
      refine mx_aload_n (i := 0) (hi := rfl) (hl := rfl) (hd := dX0_goes_92) ?_
      refine mx_iload (i := 5) (hl := rfl) (hd := dX0_goes_93) ?_
      refine mx_putI (ci := 0) (k := 5) dX0_goes_95 k_282 (by decide) rfl rfl rfl rfl (by assumption) ?_
      refine mx_iconstN 1 dX0_goes_98 (by decide) ?_
      refine mx_iret dX0_goes_99 rfl (by decide) (⟨⟨by unfold gw; rw [if_pos c10, if_neg c75]; rfl, fun z => ?_, fun y hy => ?_, ((((mx_fr.rf _ _ _).u (by omega)).u (by omega)).u (by omega))⟩, rfl⟩)
      · unfold gw at z; rw [if_pos c10, if_neg c75] at z; cases z
      · unfold gw at hy; rw [if_pos c10, if_neg c75] at hy
        cases hy
        refine ⟨?_, ?_, ?_⟩
        · rw [mx_u_at, if_neg (by omega), mx_u_at, if_neg (by omega), mx_u_at, if_pos ⟨rfl, rfl⟩]
        · rw [mx_u_at, if_neg (by omega), mx_u_at, if_pos ⟨rfl, rfl⟩]
        · rw [mx_u_at, if_pos ⟨rfl, rfl⟩]
          have hle : 256 * gC v s + 1 ≤ x.2.2 := by
            rcases Nat.lt_or_ge x.2.2 (256 * gC v s + 1) with q | q
            · exact absurd (lvB_le q 21) c75
            · exact q
          show nI x.2.2 - nI (256 * gC v s) - nI 1 = nI (x.2.2 - (256 * gC v s + 1))
          rw [nI_sub (by omega), nI_sub (by omega), Nat.sub_sub]
    · skip
      refine mx_iconstN 0 dX0_goes_78 (by decide) ?_
      exact mx_iret dX0_goes_79 rfl (by decide) (⟨⟨by unfold gw; rw [if_pos c10, if_pos c75]; rfl, fun _ => rfl, fun y hy => (by unfold gw at hy; rw [if_pos c10, if_pos c75] at hy; cases hy), mx_fr.rf _ _ _⟩, rfl⟩)
  · skip
    refine mx_iconstN 0 dX0_goes_13 (by decide) ?_
    exact mx_iret dX0_goes_14 rfl (by decide) (⟨⟨by unfold gw; rw [if_neg c10]; rfl, fun _ => rfl, fun y hy => (by unfold gw at hy; rw [if_neg c10] at hy; cases hy), mx_fr.rf _ _ _⟩, rfl⟩)

set_option maxHeartbeats 4000000 in
set_option maxRecDepth 100000 in
theorem ct_advance (G : mx_G) (I : mx_I) (o : Nat) (hs : oBP G o) (q pt : Nat) (v : Gr) (A : Pa) (he : env G I q pt v A) (rs : Nat → Nat) (hrs : arN I (o + 1) rs 168) (hrb : ∀ j, rs j ≤ 387072) (x : Wk) (hwk : wkN I o x) (hwb : wkB x) : mx_CTi yX0_advance mX0_advance 4 [.ref o, .ref q] G I (fun rv I1 => rv = some (.int (oI ((av v A rs x).map Prod.fst))) ∧ (av v A rs x = none → I1 = I) ∧ (∀ y, av v A rs x = some y → wkN I1 o y.2) ∧ mx_fr I I1 o (o + 1)) := by
  refine mx_start (k := 2) (by decide) rfl rfl (fun h => nomatch h) (Nat.le_of_ble_eq_true rfl) ?_
  show mx_V mX0_advance mx_S0 4 0 0 0 [some (.ref o), some (.ref q), none, none] [] G I (fun rv Gz Iz => (fun rv I1 => rv = some (.int (oI ((av v A rs x).map Prod.fst))) ∧ (av v A rs x = none → I1 = I) ∧ (∀ y, av v A rs x = some y → wkN I1 o y.2) ∧ mx_fr I I1 o (o + 1)) rv Iz ∧ Gz = G) (fun _ _ _ => False)
  have he0 := he
  have hs0 := hs
  obtain ⟨hsq, hsp, hrp, hvq, hvp⟩ := he
  obtain ⟨hg0, ⟨hg2, hg3, hg4⟩, ⟨hg5, hg6, hg7⟩, ⟨hg8, hg9, hg10⟩, ⟨hg11, hg12, hg13⟩⟩ := hsq
  obtain ⟨⟨hP, hN, hb⟩, hv0, hv1, hF, hK, hT, hC⟩ := hvq
  obtain ⟨hp0, ⟨hp2, hp3, hp4⟩, ⟨hp5, hp6, hp7⟩, ⟨hp8, hp9, hp10⟩, ⟨hp11, hp12, hp13⟩⟩ := hsp
  obtain ⟨⟨hwL, hwA, hwB, hwE, hwc, hwz, hwx⟩, hu1, hu2, hu6, hCh, hA, hB, hE⟩ := hvp
  obtain ⟨ha0, ⟨ha1, ha2, ha3⟩, ⟨ha4, ha5, ha6⟩, ha7, hwh⟩ := hs
  have hwh0 := hwh
  obtain ⟨hw0, hw1, hw2, hw3⟩ := hwh
  have L2 : ∀ (fq : Nat) (s : Nat), gN v - s < fq → (s ≤ gN v) → (av v A rs x = avF v A rs x (gN v - s) s) → mx_V mX0_advance mx_S0 4 0 0 2 [some (.ref o), some (.ref q), some (.int (nI s)), none] [] G I (fun rv Gz Iz => (fun rv I1 => rv = some (.int (oI ((av v A rs x).map Prod.fst))) ∧ (av v A rs x = none → I1 = I) ∧ (∀ y, av v A rs x = some y → wkN I1 o y.2) ∧ mx_fr I I1 o (o + 1)) rv Iz ∧ Gz = G) (fun _ _ _ => False) := by
    intro fq
    induction fq with
    | zero => intro s hfu; exact absurd hfu (Nat.not_lt_zero _)
    | succ fq ih =>
      intro s hfu hs1 hx
      have L12 : ∀ (fq : Nat) (d : Nat), 2 - d < fq → (d ≤ 2) → (s < gN v) → (∀ j, j < d → gw v A rs x s j = none) → mx_V mX0_advance mx_S0 4 0 0 12 [some (.ref o), some (.ref q), some (.int (nI s)), some (.int (nI d))] [] G I (fun rv Gz Iz => (fun rv I1 => rv = some (.int (oI ((av v A rs x).map Prod.fst))) ∧ (av v A rs x = none → I1 = I) ∧ (∀ y, av v A rs x = some y → wkN I1 o y.2) ∧ mx_fr I I1 o (o + 1)) rv Iz ∧ Gz = G) (fun _ _ _ => False) := by
        intro fq
        induction fq with
        | zero => intro d hfu; exact absurd hfu (Nat.not_lt_zero _)
        | succ fq ih2 =>
          intro d hfu hd hsl hg
          refine mx_iload_n (i := 3) (hi := rfl) (hl := rfl) (hd := dX0_advance_12) ?_
          refine mx_iconstN 2 dX0_advance_13 (by decide) ?_
          refine mx_cmpN_ge 40 dX0_advance_14 (by decide) (by omega) (by omega) (fun c14 => ?_) (fun c14 => ?_)
          · skip
            refine mx_iincE (i := 2) (ls' := [some (.ref o), some (.ref q), some (.int (nI (s + 1))), some (.int (nI d))]) 1 dX0_advance_40 rfl (by decide) (by decide) rfl rfl ?_
            refine mx_goto (tgt := 2) dX0_advance_43 (by decide) ?_
            refine mx_leS (ls' := [some (.ref o), some (.ref q), some (.int (nI (s + 1))), none]) ⟨rfl, rfl, rfl, trivial⟩ ?_
            exact ih (s + 1) (by omega) (by omega) (by rw [hx, show gN v - s = gN v - (s + 1) + 1 by omega, avF, hg 0 (by omega), hg 1 (by omega)])
          · skip
            refine mx_aload_n (i := 0) (hi := rfl) (hl := rfl) (hd := dX0_advance_17) ?_
            refine mx_aload_n (i := 1) (hi := rfl) (hl := rfl) (hd := dX0_advance_18) ?_
            refine mx_iload_n (i := 2) (hi := rfl) (hl := rfl) (hd := dX0_advance_19) ?_
            refine mx_iload_n (i := 3) (hi := rfl) (hl := rfl) (hd := dX0_advance_20) ?_
            refine mx_callVi (ci := 0) (As := [.ref q, .int (nI s), .int (nI d)]) (rest := []) dX0_advance_21 (ct_goes G I o hs0 q pt v A he0 rs hrs hrb x hwk hwb s d hsl (by omega)) km_X0_goes rfl k_894 k_896 k_25 (by assumption) rfl rfl (Nat.le_of_ble_eq_true rfl) (by decide) (fun r1 I2 h2 => ?_)
            obtain ⟨e9, m1, m2, m3⟩ := h2
            subst e9
            refine mx_top (y := mx_b (decide ((gw v A rs x s d).isSome = true))) (by rw [mx_dec]) ?_
            refine mx_ifB_eq 34 dX0_advance_24 (by decide) (fun c24 => ?_) (fun c24 => ?_)
            · skip
              have hn : gw v A rs x s d = none := by
                cases e : gw v A rs x s d with
                | none => rfl
                | some y => rw [e] at c24; exact absurd rfl c24
              have hI := m1 hn
              subst hI
              refine mx_iincE (i := 3) (ls' := [some (.ref o), some (.ref q), some (.int (nI s)), some (.int (nI (d + 1)))]) 1 dX0_advance_34 rfl (by decide) (by decide) rfl rfl ?_
              refine mx_goto (tgt := 12) dX0_advance_37 (by decide) ?_
              exact ih2 (d + 1) (by omega) (by omega) hsl (fun j hj => (Nat.lt_succ_iff_lt_or_eq.mp hj).elim (hg j) (fun e => e ▸ hn))
            · skip
              refine mx_bipushN 10 dX0_advance_27 (by decide) ?_
              refine mx_iload_n (i := 2) (hi := rfl) (hl := rfl) (hd := dX0_advance_29) ?_
              refine mx_imulN dX0_advance_30 ?_
              refine mx_iload_n (i := 3) (hi := rfl) (hl := rfl) (hd := dX0_advance_31) ?_
              refine mx_iaddN dX0_advance_32 ?_
              obtain ⟨y, hy⟩ := Option.isSome_iff_exists.mp c24
              have hav := av_at hx hsl (by omega) hg hy
              exact mx_iret dX0_advance_33 rfl rfl (⟨⟨by rw [hav]; rfl, fun z => (by rw [hav] at z; cases z), fun z hz => (by rw [hav] at hz; cases hz; exact m2 y hy), m3⟩, rfl⟩)
      refine mx_iload_n (i := 2) (hi := rfl) (hl := rfl) (hd := dX0_advance_2) ?_
      refine mx_aload_n (i := 1) (hi := rfl) (hl := rfl) (hd := dX0_advance_3) ?_
      refine mx_getV (ci := 6) (k := 1) (nI (gN v)) dX0_advance_4 k_171 (by decide) rfl (by assumption) hv1 ?_
      refine mx_cmpN_ge 46 dX0_advance_7 (by decide) (by omega) (by omega) (fun c7 => ?_) (fun c7 => ?_)
      · skip
        refine mx_bipush (v := (-9)) (by decide) dX0_advance_46 ?_
        have hav : av v A rs x = none := by rw [hx, show gN v - s = 0 by omega]; rfl
        exact mx_iret dX0_advance_48 rfl rfl (⟨⟨by rw [hav]; rfl, fun _ => rfl, fun y hy => (by rw [hav] at hy; cases hy), mx_fr.rf _ _ _⟩, rfl⟩)
      · skip
        refine mx_iconstN 0 dX0_advance_10 (by decide) ?_
        refine mx_istoreE_n (i := 3) (ls' := [some (.ref o), some (.ref q), some (.int (nI s)), some (.int (nI 0))]) (hi := rfl) (hd := dX0_advance_11) (hn := by decide) (hok := rfl) (hls := rfl) ?_
        exact L12 _ 0 (Nat.lt_succ_self _) (by decide) (by omega) (fun j hj => absurd hj (Nat.not_lt_zero _))
  refine mx_iconstN 0 dX0_advance_0 (by decide) ?_
  refine mx_istoreE_n (i := 2) (ls' := [some (.ref o), some (.ref q), some (.int (nI 0)), none]) (hi := rfl) (hd := dX0_advance_1) (hn := by decide) (hok := rfl) (hls := rfl) ?_
  exact L2 _ 0 (Nat.lt_succ_self _) (Nat.zero_le _) rfl

set_option maxHeartbeats 4000000 in
set_option maxRecDepth 100000 in
theorem ct_goingAt (G : mx_G) (I : mx_I) (o : Nat) (hs : oBP G o) (q pt : Nat) (v : Gr) (A : Pa) (he : env G I q pt v A) (hd1 : q + 5 ≤ o ∨ o + 5 ≤ q) (hd2 : pt + 5 ≤ o ∨ o + 5 ≤ pt) (rs : Nat → Nat) (hrs : arN I (o + 1) rs 168) (hrb : ∀ j, rs j ≤ 387072) (p i : Nat) (hp : p < 8) (hi : i < 2 ^ 31) : mx_CTi yX0_goingAt mX0_goingAt 5 [.ref o, .ref q, .int (nI p), .int (nI i)] G I (fun rv I1 => rv = some (.int (oI (gAt v A rs p i))) ∧ mx_fr I I1 o (o + 5)) := by
  refine mx_start (k := 2) (by decide) rfl rfl (fun h => nomatch h) (Nat.le_of_ble_eq_true rfl) ?_
  show mx_V mX0_goingAt mx_S0 5 0 0 0 [some (.ref o), some (.ref q), some (.int (nI p)), some (.int (nI i)), none, none] [] G I (fun rv Gz Iz => (fun rv I1 => rv = some (.int (oI (gAt v A rs p i))) ∧ mx_fr I I1 o (o + 5)) rv Iz ∧ Gz = G) (fun _ _ _ => False)
  have he0 := he
  have hs0 := hs
  have hwg := he.2.2.2.1.1
  obtain ⟨hsq, hsp, hrp, hvq, hvp⟩ := he
  obtain ⟨hg0, ⟨hg2, hg3, hg4⟩, ⟨hg5, hg6, hg7⟩, ⟨hg8, hg9, hg10⟩, ⟨hg11, hg12, hg13⟩⟩ := hsq
  obtain ⟨⟨hP, hN, hb⟩, hv0, hv1, hF, hK, hT, hC⟩ := hvq
  obtain ⟨hp0, ⟨hp2, hp3, hp4⟩, ⟨hp5, hp6, hp7⟩, ⟨hp8, hp9, hp10⟩, ⟨hp11, hp12, hp13⟩⟩ := hsp
  obtain ⟨⟨hwL, hwA, hwB, hwE, hwc, hwz, hwx⟩, hu1, hu2, hu6, hCh, hA, hB, hE⟩ := hvp
  obtain ⟨ha0, ⟨ha1, ha2, ha3⟩, ⟨ha4, ha5, ha6⟩, ha7, hwh⟩ := hs
  have hwh0 := hwh
  obtain ⟨hw0, hw1, hw2, hw3⟩ := hwh
  have hlt := fun z => gfm_lt (rs := rs) (p := p) (z := z)
  have hlt2 : ∀ z, gfm rs p = some z → z < 2 ^ 31 := fun z hz => by have := hlt z hz; omega
  have hb0 : wkB (p, 1, rs (p * 21)) := ⟨hp, (by decide : 1 < 2 ^ 21), hrb _⟩
  have L42 : ∀ (fq : Nat) (n : Nat) (g : Int32) (n9 : Nat) (I1 : mx_I), i + 1 - n < fq → (n ≤ i + 1) → (gfm rs p = some n9) → (i < n9) → (n9 < 256) → (g = oI (gaI v A rs (p, 1, rs (p * 21)) n).1) → (wkN I1 o (gaI v A rs (p, 1, rs (p * 21)) n).2) → (arN I1 (o + 1) rs 168) → (mx_fr I I1 o (o + 5)) → mx_V mX0_goingAt mx_S0 5 0 0 42 [some (.ref o), some (.ref q), some (.int (nI p)), some (.int (nI i)), some (.int g), some (.int (nI n))] [] G I1 (fun rv Gz Iz => (fun rv I1 => rv = some (.int (oI (gAt v A rs p i))) ∧ mx_fr I I1 o (o + 5)) rv Iz ∧ Gz = G) (fun _ _ _ => False) := by
    intro fq
    induction fq with
    | zero => intro n g n9 I1 hfu; exact absurd hfu (Nat.not_lt_zero _)
    | succ fq ih =>
      intro n g n9 I1 hfu hn hn9 hin hn256 hg hwk hr1 hfr
      refine mx_iload (i := 5) (hl := rfl) (hd := dX0_goingAt_42) ?_
      refine mx_iload_n (i := 3) (hi := rfl) (hl := rfl) (hd := dX0_goingAt_44) ?_
      refine mx_cmpN_gt 61 dX0_goingAt_45 (by decide) (by omega) (by omega) (fun c45 => ?_) (fun c45 => ?_)
      · skip
        refine mx_iload (i := 4) (hl := rfl) (hd := dX0_goingAt_61) ?_
        have hres : some (Value.int g) = some (Value.int (oI (gAt v A rs p i))) := by
          unfold gAt
          rw [hn9]
          show _ = some (Value.int (oI (if i < n9 then (gaI v A rs (p, 1, rs (p * 21)) (i + 1)).1 else none)))
          rw [if_pos hin, hg, show n = i + 1 by omega]
        exact mx_iret dX0_goingAt_63 rfl rfl (⟨⟨hres, hfr⟩, rfl⟩)
      · skip
        refine mx_aload_n (i := 0) (hi := rfl) (hl := rfl) (hd := dX0_goingAt_48) ?_
        refine mx_aload_n (i := 1) (hi := rfl) (hl := rfl) (hd := dX0_goingAt_49) ?_
        refine mx_callVi (ci := 0) (As := [.ref q]) (rest := []) dX0_goingAt_50 (ct_advance G I1 o hs0 q pt v A (he0.fr hfr (by omega) (by omega)) rs hr1 hrb _ hwk (gaI_B hwg hb0 n)) km_X0_advance rfl k_890 k_892 k_24 (by assumption) rfl rfl (Nat.le_of_ble_eq_true rfl) (by decide) (fun r1 I3 h2 => ?_)
        obtain ⟨e9, m1, m2, m3⟩ := h2
        subst e9
        refine mx_istoreE (i := 4) (ls' := [some (.ref o), some (.ref q), some (.int (nI p)), some (.int (nI i)), some (.int (oI ((av v A rs (gaI v A rs (p, 1, rs (p * 21)) n).2).map Prod.fst))), some (.int (nI n))]) (hd := dX0_goingAt_53) (hn := by decide) (hok := rfl) (hls := rfl) ?_
        refine mx_iincE (i := 5) (ls' := [some (.ref o), some (.ref q), some (.int (nI p)), some (.int (nI i)), some (.int (oI ((av v A rs (gaI v A rs (p, 1, rs (p * 21)) n).2).map Prod.fst))), some (.int (nI (n + 1)))]) 1 dX0_goingAt_55 rfl (by decide) (by decide) rfl rfl ?_
        refine mx_goto (tgt := 42) dX0_goingAt_58 (by decide) ?_
        exact ih (n + 1) _ n9 _ (by omega) (by omega) hn9 hin hn256 (by rw [gaI_fst]) (gaI_wk m1 m2 hwk) (hr1.f m3 (by omega)) (hfr.tr (m3.wk (by omega) (by omega)))
  refine mx_iload_n (i := 3) (hi := rfl) (hl := rfl) (hd := dX0_goingAt_0) ?_
  refine mx_aload_n (i := 0) (hi := rfl) (hl := rfl) (hd := dX0_goingAt_1) ?_
  refine mx_iload_n (i := 2) (hi := rfl) (hl := rfl) (hd := dX0_goingAt_2) ?_
  refine mx_callVp (ci := 0) (As := [.int (nI p)]) (rest := [.int (nI i)]) dX0_goingAt_3 (ct_goingsFrom G I o hs0 rs hrs hrb p hp) km_X0_goingsFrom rfl k_889 k_608 k_609 (by assumption) rfl rfl (Nat.le_of_ble_eq_true rfl) (by decide) ?_
  refine mx_cmpNR_lt 12 dX0_goingAt_6 (by decide) (by omega) (fun c6 => ?_) (fun c6 => ?_)
  · skip
    obtain ⟨n9, hn9, hin⟩ := (oI_lt_nat hlt2 i).mp c6
    have hn256 := hlt n9 hn9
    refine mx_aload_n (i := 0) (hi := rfl) (hl := rfl) (hd := dX0_goingAt_12) ?_
    refine mx_iload_n (i := 2) (hi := rfl) (hl := rfl) (hd := dX0_goingAt_13) ?_
    refine mx_putI (ci := 0) (k := 3) dX0_goingAt_14 k_280 (by decide) rfl rfl rfl rfl (by assumption) ?_
    refine mx_aload_n (i := 0) (hi := rfl) (hl := rfl) (hd := dX0_goingAt_17) ?_
    refine mx_iconstN 1 dX0_goingAt_18 (by decide) ?_
    refine mx_putI (ci := 0) (k := 4) dX0_goingAt_19 k_281 (by decide) rfl rfl rfl rfl (by assumption) ?_
    refine mx_aload_n (i := 0) (hi := rfl) (hl := rfl) (hd := dX0_goingAt_22) ?_
    refine mx_aload_n (i := 0) (hi := rfl) (hl := rfl) (hd := dX0_goingAt_23) ?_
    refine mx_getR (ci := 0) (k := 0) (r := (o + 1)) dX0_goingAt_24 k_277 (by decide) rfl (by assumption) (by assumption) (by omega) ?_
    refine mx_iload_n (i := 2) (hi := rfl) (hl := rfl) (hd := dX0_goingAt_27) ?_
    refine mx_bipushN 21 dX0_goingAt_28 (by decide) ?_
    refine mx_imulN dX0_goingAt_30 ?_
    refine mx_ialdV (p * 21) (nI (rs (p * 21))) dX0_goingAt_31 (by assumption) ⟨rfl, by omega, by omega⟩ (by rw [mx_u_at, if_neg (by omega), mx_u_at, if_neg (by omega)]; exact (hrs _ (by omega))) ?_
    refine mx_putI (ci := 0) (k := 5) dX0_goingAt_32 k_282 (by decide) rfl rfl rfl rfl (by assumption) ?_
    refine mx_bipush (v := (-9)) (by decide) dX0_goingAt_35 ?_
    refine mx_istoreE (i := 4) (ls' := [some (.ref o), some (.ref q), some (.int (nI p)), some (.int (nI i)), some (.int (-9)), none]) (hd := dX0_goingAt_37) (hn := by decide) (hok := rfl) (hls := rfl) ?_
    refine mx_iconstN 0 dX0_goingAt_39 (by decide) ?_
    refine mx_istoreE (i := 5) (ls' := [some (.ref o), some (.ref q), some (.int (nI p)), some (.int (nI i)), some (.int (-9)), some (.int (nI 0))]) (hd := dX0_goingAt_40) (hn := by decide) (hok := rfl) (hls := rfl) ?_
    exact L42 _ 0 _ n9 _ (Nat.lt_succ_self _) (by omega) hn9 hin hn256 rfl ⟨by rw [mx_u_at, if_neg (by omega), mx_u_at, if_neg (by omega), mx_u_at, if_pos ⟨rfl, rfl⟩]; rfl, by rw [mx_u_at, if_neg (by omega), mx_u_at, if_pos ⟨rfl, rfl⟩]; rfl, by rw [mx_u_at, if_pos ⟨rfl, rfl⟩]; rfl⟩ (((hrs.o (by omega)).o (by omega)).o (by omega)) ((((mx_fr.rf _ _ _).u (by omega)).u (by omega)).u (by omega))
  · skip
    have hgn : gAt v A rs p i = none := by
      unfold gAt
      cases e : gfm rs p with
      | none => rfl
      | some n => exact if_neg (fun q => c6 ((oI_lt_nat hlt2 i).mpr ⟨n, e, q⟩))
    refine mx_bipush (v := (-9)) (by decide) dX0_goingAt_9 ?_
    exact mx_iret dX0_goingAt_11 rfl rfl (⟨⟨by rw [hgn]; rfl, mx_fr.rf _ _ _⟩, rfl⟩)
