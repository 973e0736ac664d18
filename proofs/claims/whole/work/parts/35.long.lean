/-! THE METHODS OF StepPaths: longs, follow -/
theorem tn31 (x : Int32) : x.toInt.toNat < 2 ^ 31 := by have := Int32.toInt_lt x; omega
theorem tn_lt {x : Int} {n : Nat} (h : 0 ≤ x ∧ x < (n : Int)) : x.toNat < n := by omega
theorem lgc_lt {x y : Int64} : (lg_cmp x y).toInt < 0 ↔ x.toInt < y.toInt := by
  have h := lg_cmp_lt x y
  rw [Int32.lt_iff_toInt_lt, Int64.lt_iff_toInt_lt] at h
  exact h
theorem lgc_ge {x y : Int64} : 0 ≤ (lg_cmp x y).toInt ↔ y.toInt ≤ x.toInt := by
  have h := lg_cmp_ge x y
  rw [Int32.le_iff_toInt_le, Int64.le_iff_toInt_le] at h
  exact h
theorem lgc_lt0 {x : Int64} : (lg_cmp x (0 : Int64)).toInt < 0 ↔ x.toInt < 0 := lgc_lt
theorem lN_nn {x : Int64} (h : 0 ≤ x.toInt) : x = lN x.toInt.toNat := by
  obtain ⟨k, hk, rfl⟩ := pk_lOf (x := x) (fun q => by rw [Int64.lt_iff_toInt_lt] at q; exact absurd h (by have : x.toInt < 0 := q; omega))
  rw [pk_lT hk]
  rfl
theorem lN_tt {n : Nat} (h : n < 2 ^ 63) : (lN n).toInt.toNat = n := by rw [pk_lT h]; rfl
theorem dm_step (x b i : Nat) : x / b ^ i / b = x / b ^ (i + 1) := by rw [Nat.div_div_eq_div_mul, Nat.pow_succ]

set_option maxHeartbeats 4000000 in
set_option maxRecDepth 100000 in
theorem ct_power (G : mx_G) (I : mx_I) (b e : Nat) (he : e < 2 ^ 31) : mx_CTp yX9_power mX9_power 1 [.long (lN b), .int (nI e)] G I (some (.long (lN (b ^ e)))) := by
  refine mx_start (k := 3) (by decide) rfl rfl (fun h => nomatch h) (Nat.le_of_ble_eq_true rfl) ?_
  show mx_V mX9_power mx_S0 1 0 0 0 [some (.long (lN b)), none, some (.int (nI e)), none, none, none] [] G I (fun rv Gz Iz => rv = some (.long (lN (b ^ e))) ∧ Gz = G ∧ Iz = I) (fun _ _ _ => False)
  have L5 : ∀ (f : Nat) (i : Nat), e - i < f → (i ≤ e) → mx_V mX9_power mx_S0 1 0 0 5 [some (.long (lN b)), none, some (.int (nI e)), some (.long (lN (b ^ i))), none, some (.int (nI i))] [] G I (fun rv Gz Iz => rv = some (.long (lN (b ^ e))) ∧ Gz = G ∧ Iz = I) (fun _ _ _ => False) := by
    intro f
    induction f with
    | zero => intro i hfu; exact absurd hfu (Nat.not_lt_zero _)
    | succ f ih =>
      intro i hfu hi
      refine mx_iload (i := 5) (hl := rfl) (hd := dX9_power_5) ?_
      refine mx_iload_n (i := 2) (hi := rfl) (hl := rfl) (hd := dX9_power_7) ?_
      refine mx_cmpN_ge 21 dX9_power_8 (by decide) (by omega) (by omega) (fun c8 => ?_) (fun c8 => ?_)
      · skip
        refine mx_lload_n (i := 3) (hi := rfl) (hl := rfl) (hd := dX9_power_21) ?_
        exact mx_lret dX9_power_22 rfl (⟨by rw [show i = e by omega], rfl, rfl⟩)
      · skip
        refine mx_lload_n (i := 3) (hi := rfl) (hl := rfl) (hd := dX9_power_11) ?_
        refine mx_lload_n (i := 0) (hi := rfl) (hl := rfl) (hd := dX9_power_12) ?_
        refine mx_lmul dX9_power_13 ?_
        refine mx_topl (y := lN (b ^ (i + 1))) (by rw [lN_mul, Nat.pow_succ]) ?_
        refine mx_lstoreE_n (i := 3) (ls' := [some (.long (lN b)), none, some (.int (nI e)), some (.long (lN (b ^ (i + 1)))), none, some (.int (nI i))]) (hi := rfl) (hd := dX9_power_14) (hn := by decide) (hok := rfl) (hls := rfl) ?_
        refine mx_iincE (i := 5) (ls' := [some (.long (lN b)), none, some (.int (nI e)), some (.long (lN (b ^ (i + 1)))), none, some (.int (nI (i + 1)))]) 1 dX9_power_15 rfl (by decide) (by decide) rfl rfl ?_
        refine mx_goto (tgt := 5) dX9_power_18 (by decide) ?_
        exact ih (i + 1) (by omega) (by omega)
  refine mx_lconst (v := 1) (by decide) dX9_power_0 ?_
  refine mx_topl (y := lN (b ^ 0)) (rfl) ?_
  refine mx_lstoreE_n (i := 3) (ls' := [some (.long (lN b)), none, some (.int (nI e)), some (.long (lN (b ^ 0))), none, none]) (hi := rfl) (hd := dX9_power_1) (hn := by decide) (hok := rfl) (hls := rfl) ?_
  refine mx_iconstN 0 dX9_power_2 (by decide) ?_
  refine mx_istoreE (i := 5) (ls' := [some (.long (lN b)), none, some (.int (nI e)), some (.long (lN (b ^ 0))), none, some (.int (nI 0))]) (hd := dX9_power_3) (hn := by decide) (hok := rfl) (hls := rfl) ?_
  exact L5 _ 0 (Nat.lt_succ_self _) (Nat.zero_le _)

set_option maxHeartbeats 4000000 in
set_option maxRecDepth 100000 in
theorem ct_group (G : mx_G) (I : mx_I) (x b k : Nat) (hx : x < 2 ^ 63) (hb : 0 < b ∧ b < 2 ^ 31) (hk : k < 2 ^ 31) : mx_CTp yX9_group mX9_group 1 [.long (lN x), .long (lN b), .int (nI k)] G I (some (.int (nI (x / b ^ k % b)))) := by
  refine mx_start (k := 3) (by decide) rfl rfl (fun h => nomatch h) (Nat.le_of_ble_eq_true rfl) ?_
  show mx_V mX9_group mx_S0 1 0 0 0 [some (.long (lN x)), none, some (.long (lN b)), none, some (.int (nI k)), none, none, none] [] G I (fun rv Gz Iz => rv = some (.int (nI (x / b ^ k % b))) ∧ Gz = G ∧ Iz = I) (fun _ _ _ => False)
  have hb0 : ¬ lN b = 0 := fun q => by
    have := (pk_lEQ (a := b) (b := 0) (by omega) (by decide)).mp q
    omega
  have hle : ∀ i, x / b ^ i < 2 ^ 63 := fun i => Nat.lt_of_le_of_lt (Nat.div_le_self _ _) hx
  have hx0 : lN x = lN (x / b ^ 0) := by rw [Nat.pow_zero, Nat.div_one]
  have L6 : ∀ (f : Nat) (i : Nat), k - i < f → (i ≤ k) → mx_V mX9_group mx_S0 1 0 0 6 [some (.long (lN x)), none, some (.long (lN b)), none, some (.int (nI k)), some (.long (lN (x / b ^ i))), none, some (.int (nI i))] [] G I (fun rv Gz Iz => rv = some (.int (nI (x / b ^ k % b))) ∧ Gz = G ∧ Iz = I) (fun _ _ _ => False) := by
    intro f
    induction f with
    | zero => intro i hfu; exact absurd hfu (Nat.not_lt_zero _)
    | succ f ih =>
      intro i hfu hi
      refine mx_iload (i := 7) (hl := rfl) (hd := dX9_group_6) ?_
      refine mx_iload (i := 4) (hl := rfl) (hd := dX9_group_8) ?_
      refine mx_cmpN_ge 25 dX9_group_10 (by decide) (by omega) (by omega) (fun c10 => ?_) (fun c10 => ?_)
      · skip
        refine mx_lload (i := 5) (hl := rfl) (hd := dX9_group_25) ?_
        refine mx_lload_n (i := 2) (hi := rfl) (hl := rfl) (hd := dX9_group_27) ?_
        refine mx_lrem (hb0) dX9_group_28 ?_
        refine mx_topl (y := lN (x / b ^ i % b)) (pk_lRem (hle i) hb.1 (by omega)) ?_
        refine mx_l2i (hv := rfl) (hd := dX9_group_29) ?_
        refine mx_top (y := nI (x / b ^ i % b)) (lN_i _) ?_
        exact mx_iret dX9_group_30 rfl rfl (⟨by rw [show i = k by omega], rfl, rfl⟩)
      · skip
        refine mx_lload (i := 5) (hl := rfl) (hd := dX9_group_13) ?_
        refine mx_lload_n (i := 2) (hi := rfl) (hl := rfl) (hd := dX9_group_15) ?_
        refine mx_ldiv (hb0) dX9_group_16 ?_
        refine mx_topl (y := lN (x / b ^ (i + 1))) (by rw [pk_lDiv (hle i) hb.1 (by omega), dm_step]) ?_
        refine mx_lstoreE (i := 5) (ls' := [some (.long (lN x)), none, some (.long (lN b)), none, some (.int (nI k)), some (.long (lN (x / b ^ (i + 1)))), none, some (.int (nI i))]) (hd := dX9_group_17) (hn := by decide) (hok := rfl) (hls := rfl) ?_
        refine mx_iincE (i := 7) (ls' := [some (.long (lN x)), none, some (.long (lN b)), none, some (.int (nI k)), some (.long (lN (x / b ^ (i + 1)))), none, some (.int (nI (i + 1)))]) 1 dX9_group_19 rfl (by decide) (by decide) rfl rfl ?_
        refine mx_goto (tgt := 6) dX9_group_22 (by decide) ?_
        exact ih (i + 1) (by omega) (by omega)
  refine mx_lload_n (i := 0) (hi := rfl) (hl := rfl) (hd := dX9_group_0) ?_
  refine mx_topl (y := lN (x / b ^ 0)) (hx0) ?_
  refine mx_lstoreE (i := 5) (ls' := [some (.long (lN x)), none, some (.long (lN b)), none, some (.int (nI k)), some (.long (lN (x / b ^ 0))), none, none]) (hd := dX9_group_1) (hn := by decide) (hok := rfl) (hls := rfl) ?_
  refine mx_iconstN 0 dX9_group_3 (by decide) ?_
  refine mx_istoreE (i := 7) (ls' := [some (.long (lN x)), none, some (.long (lN b)), none, some (.int (nI k)), some (.long (lN (x / b ^ 0))), none, some (.int (nI 0))]) (hd := dX9_group_4) (hn := by decide) (hok := rfl) (hls := rfl) ?_
  exact L6 _ 0 (Nat.lt_succ_self _) (Nat.zero_le _)

theorem ct_hasPersonN (G : mx_G) (I : mx_I) (o : Nat) (v : Gr) (hs : oST G o) (hv : stN I o v) (p : Nat) (hp : p < 2 ^ 31) : mx_CTp yX6_hasPerson mX6_hasPerson 1 [.ref o, .int (nI p)] G I (some (.int (mx_b (decide (p < gP v))))) :=
  (ct_hasPerson G I o v hs hv (nI p)).eq rfl (by rw [nI_toInt hp]; exact congrArg (fun z => some (Value.int (mx_b z))) (decide_eq_decide.mpr (by omega)))
theorem ct_hasStepN (G : mx_G) (I : mx_I) (o : Nat) (v : Gr) (hs : oST G o) (hv : stN I o v) (p : Nat) (hp : p < 2 ^ 31) : mx_CTp yX6_hasStep mX6_hasStep 1 [.ref o, .int (nI p)] G I (some (.int (mx_b (decide (p < gN v))))) :=
  (ct_hasStep G I o v hs hv (nI p)).eq rfl (by rw [nI_toInt hp]; exact congrArg (fun z => some (Value.int (mx_b z))) (decide_eq_decide.mpr (by omega)))
theorem ct_hasPeopleN (G : mx_G) (I : mx_I) (o : Nat) (v : Gr) (hs : oST G o) (hv : stN I o v) (p q : Nat) (hp : p < 2 ^ 31) (hq : q < 2 ^ 31) : mx_CTp yX6_hasPeople mX6_hasPeople 2 [.ref o, .int (nI p), .int (nI q)] G I (some (.int (mx_b (decide (p < gP v ∧ q < gP v))))) :=
  (ct_hasPeople G I o v hs hv (nI p) (nI q)).eq rfl (by rw [nI_toInt hp, nI_toInt hq]; exact congrArg (fun z => some (Value.int (mx_b z))) (decide_eq_decide.mpr (by omega)))
theorem ct_isKindN (G : mx_G) (I : mx_I) (p : Nat) (hp : p < 2 ^ 31) : mx_CTp yX9_isKind mX9_isKind 1 [.int (nI p)] G I (some (.int (mx_b (decide (p < 4))))) :=
  (ct_isKind G I (nI p)).eq rfl (by rw [nI_toInt hp]; exact congrArg (fun z => some (Value.int (mx_b z))) (decide_eq_decide.mpr (by omega)))
/-- how far a row of goings goes, from going i on, at a person, at some positions -/
def flF (v : Gr) (A : Pa) (r n : Nat) : Nat → Nat → Nat → Nat → Int32
  | 0, _, _, ps => if ¬ ps &&& pAc A = 0 then -9 else nI (n + 1)
  | f + 1, i, here, ps =>
    if r / 1000 ^ (n - i) % 1000 / 10 < gN v ∧ r / 1000 ^ (n - i) % 1000 % 10 ≤ 1 ∧ (if r / 1000 ^ (n - i) % 1000 % 10 = 0 then gF v (r / 1000 ^ (n - i) % 1000 / 10) else gT v (r / 1000 ^ (n - i) % 1000 / 10)) = here then
      (if pFol A ps &&& pEn A (r / 1000 ^ (n - i) % 1000 % 10) (gK v (r / 1000 ^ (n - i) % 1000 / 10)) = 0 then nI i
       else flF v A r n f (i + 1) (if r / 1000 ^ (n - i) % 1000 % 10 = 0 then gT v (r / 1000 ^ (n - i) % 1000 / 10) else gF v (r / 1000 ^ (n - i) % 1000 / 10)) (pFol A ps &&& pEn A (r / 1000 ^ (n - i) % 1000 % 10) (gK v (r / 1000 ^ (n - i) % 1000 / 10))))
    else nI i
theorem flF_g {v : Gr} {A : Pa} {r n f i here ps go : Nat} (h : r / 1000 ^ (n - i) % 1000 = go) : flF v A r n (f + 1) i here ps = if go / 10 < gN v ∧ go % 10 ≤ 1 ∧ (if go % 10 = 0 then gF v (go / 10) else gT v (go / 10)) = here then (if pFol A ps &&& pEn A (go % 10) (gK v (go / 10)) = 0 then nI i else flF v A r n f (i + 1) (if go % 10 = 0 then gT v (go / 10) else gF v (go / 10)) (pFol A ps &&& pEn A (go % 10) (gK v (go / 10)))) else nI i := by
  subst h
  rfl
def fl_follow (z : Zs) (p n : Int32) (row : Int64) : Nat := if ¬ (0 ≤ p.toInt ∧ p.toInt < (gP (zG z) : Int)) then 1 else if ¬ (1 ≤ n.toInt ∧ n.toInt ≤ 5) then 2 else if ¬ (0 ≤ row.toInt ∧ row.toInt < ((1000 ^ n.toInt.toNat : Nat) : Int)) then 2 else 0
def an_follow (z : Zs) (p n r : Nat) : Int32 := flF (zG z) (vA (zX z)) r n n 1 p 1
theorem p1000 {n : Nat} (h : 1 ≤ n ∧ n ≤ 5) : 1000 ^ n < 2 ^ 63 := Nat.lt_of_le_of_lt (Nat.pow_le_pow_right (by decide) h.2) (by decide)

theorem gx8 {c : Prop} [Decidable c] {x y : Nat} (h1 : x < 8) (h2 : y < 8) : (if c then x else y) < 8 := by
  split
  · exact h1
  · exact h2
theorem gx31 {c : Prop} [Decidable c] {x y : Nat} (h1 : x < 8) (h2 : y < 8) : (if c then x else y) < 2 ^ 31 := by
  split <;> omega

set_option maxHeartbeats 1000000 in
set_option maxRecDepth 100000 in
theorem ct_follow (G : mx_G) (I : mx_I) (a : Nat) (z : Zs) (hW : cW G I a z) (p n : Int32) (row : Int64) : mx_CT yX9_follow mX9_follow 8 3 18 [.ref a, .int p, .int n, .long row] G I (fun rv Gz Iz => fl_follow z p n row = 0 ∧ rv = some (.int (an_follow z p.toInt.toNat n.toInt.toNat row.toInt.toNat)) ∧ cP G I a z Gz Iz) (fun E Gz Iz => (fl_follow z p n row) ≠ 0 ∧ E = exN (fl_follow z p n row) ∧ cP G I a z Gz Iz) := by
  refine mx_start (k := 6) (by decide) rfl rfl (fun h => nomatch h) (Nat.le_of_ble_eq_true rfl) ?_
  show mx_V mX9_follow mx_S0 8 3 18 0 [some (.ref a), some (.int p), some (.int n), some (.long row), none, none, none, none, none, none, none] [] G I (fun rv Gz Iz => fl_follow z p n row = 0 ∧ rv = some (.int (an_follow z p.toInt.toNat n.toInt.toNat row.toInt.toNat)) ∧ cP G I a z Gz Iz) (fun E Gz Iz => (fl_follow z p n row) ≠ 0 ∧ E = exN (fl_follow z p n row) ∧ cP G I a z Gz Iz)
  have hW0 := hW
  obtain ⟨⟨hSP, hsz, hpe⟩, hTx, hSt, hHi, hSl⟩ := hW
  have oSt : oST G (a + 37) := hSP.2.2.2.2.1.2
  obtain ⟨tg9, ⟨f0, oTx⟩, ⟨f1, oPt⟩, ⟨f2, oRd⟩, ⟨f3, -⟩, ⟨f4, oDr⟩, ⟨f5, oHi⟩, ⟨f6, gSl, lSl, ⟨rq0, oS0⟩, ⟨rq1, oS1⟩⟩, ⟨f7, gFi, lFi⟩, ⟨f8, oSe⟩, ⟨f9, oTr⟩, ⟨f10, oBp⟩⟩ := hSP
  have tg0 : mx_tg G (a + 1) = 17 := oTx.1
  have tg1 : mx_tg G (a + 3) = 12 := oPt.1
  have tg2 : mx_tg G (a + 8) = 13 := oRd.1
  have tg3 : mx_tg G (a + 37) = 16 := oSt.1
  have tg4 : mx_tg G (a + 42) = 16 := oDr.1
  have tg5 : mx_tg G (a + 47) = 11 := oHi.1
  have tg6 : mx_tg G (a + 131) = 15 := oSe.1
  have tg7 : mx_tg G (a + 136) = 15 := oTr.1
  have tg8 : mx_tg G (a + 141) = 10 := oBp.1
  obtain ⟨rT, tT, lT⟩ : mx_rf G (a + 1) 0 = a + 2 ∧ mx_tg G (a + 2) = 2 ∧ mx_ln G (a + 2) = 110 := oTx.2
  have oSt0 : oST G (a + 37) := oSt
  obtain ⟨-, ⟨rF, tF, lF⟩, ⟨rK, tK, lK⟩, ⟨rO, tO, lO⟩, ⟨rC, tC, lC⟩⟩ : mx_tg G (a + 37) = 16 ∧ (mx_rf G (a + 37) 2 = a + 38 ∧ mx_tg G (a + 38) = 1 ∧ mx_ln G (a + 38) = 25) ∧ (mx_rf G (a + 37) 3 = a + 39 ∧ mx_tg G (a + 39) = 1 ∧ mx_ln G (a + 39) = 25) ∧ (mx_rf G (a + 37) 4 = a + 40 ∧ mx_tg G (a + 40) = 1 ∧ mx_ln G (a + 40) = 25) ∧ (mx_rf G (a + 37) 5 = a + 41 ∧ mx_tg G (a + 41) = 1 ∧ mx_ln G (a + 41) = 25) := oSt
  have hSv : stN I (a + 37) (zG z) := hSt.1
  obtain ⟨⟨hP8, hN25, hvb⟩, hs0, hs1, hsF, hsK, hsT, hsC⟩ : stN I (a + 37) (zG z) := hSt.1
  have hN24 : gN (zG z) ≤ 24 := hSt.2.1.1
  have hTx0 := hTx
  obtain ⟨hn110, ht1, htc, htb⟩ : txN I (a + 1) (zN z) (zT z) := hTx
  obtain ⟨pt, hpt⟩ : ∃ pt, mx_rf G (a + 37) 6 = pt := ⟨_, rfl⟩
  have he0 : env G I (a + 37) pt (zG z) (vA (zX z)) := by rw [← hpt]; exact hW0.env
  have hpd : pt = a + 3 ∨ a + 146 ≤ pt := by rw [← hpt]; exact hW0.2.2.1.2.2.1
  have hpd5 : pt + 5 ≤ mx_sz G := by rw [← hpt]; exact hW0.2.2.1.2.2.2.1
  have tgp : mx_tg G pt = 12 := he0.2.1.1
  obtain ⟨rch, tch, lch⟩ : mx_rf G pt 0 = pt + 1 ∧ mx_tg G (pt + 1) = 2 ∧ mx_ln G (pt + 1) = 40 := he0.2.1.2.1
  have hpn : ptN I pt (vA (zX z)) := he0.2.2.2.2
  have hwfp : wfP (vA (zX z)) := hpn.1
  have hwfg : wfG (zG z) := he0.2.2.2.1.1
  have hn40 : (zX z).2.1 ≤ 40 := hSt.2.1.2.1
  have hpz : I pt 1 = nI (zX z).2.1 := by
    rw [hpn.2.1, show pSz (vA (zX z)) = min (zX z).2.1 40 from (rdF_sz _ _).1, Nat.min_eq_left hn40]
  have hpl : I pt 2 = nI (pL (vA (zX z))) := hpn.2.2.1
  have hpc : ∀ i, i < (zX z).2.1 → I (pt + 1) i = nI ((zX z).2.2 i) := fun i hi => by
    have h := hpn.2.2.2.2.1 i (by rw [show pSz (vA (zX z)) = min (zX z).2.1 40 from (rdF_sz _ _).1, Nat.min_eq_left hn40]; exact hi)
    rw [h, show pCh (vA (zX z)) = (zX z).2.2 from (rdF_sz _ _).2]
  have hpc8 : ∀ i, i < (zX z).2.1 → (zX z).2.2 i < 256 := hSt.2.1.2.2.2
  have J27 : ∀ (_ : Unit), (0 ≤ p.toInt ∧ p.toInt < (gP (zG z) : Int)) → mx_V mX9_follow mx_S0 8 2 12 27 [some (.ref a), some (.int p), some (.int n), some (.long row), none, none, none, none, none, none, none] [.int (mx_b (decide (1 ≤ n.toInt ∧ n.toInt ≤ 5)))] G I (fun rv Gz Iz => fl_follow z p n row = 0 ∧ rv = some (.int (an_follow z p.toInt.toNat n.toInt.toNat row.toInt.toNat)) ∧ cP G I a z Gz Iz) (fun E Gz Iz => (fl_follow z p n row) ≠ 0 ∧ E = exN (fl_follow z p n row) ∧ cP G I a z Gz Iz) := by
    intro _ k1
    refine mx_iconstN 2 dX9_follow_27 (by decide) ?_
    refine mx_callS (As := [.int (mx_b (decide (1 ≤ n.toInt ∧ n.toInt ≤ 5))), .int (nI 2)]) (rest := []) (b1 := 1) (b2 := 6) dX9_follow_28 (ct_require G I (1 ≤ n.toInt ∧ n.toInt ≤ 5) 2 (by decide)) km_X9_require rfl k_410 k_411 rfl rfl (Nat.le_of_ble_eq_true rfl) (by decide) (fun E G9 I9 h9 => mx_xo rfl (by have hf : fl_follow z p n row = 2 := (by unfold fl_follow; rw [if_neg (fun q => q k1), if_pos h9.1]); show (fl_follow z p n row) ≠ 0 ∧ E = exN (fl_follow z p n row) ∧ cP G I a z G9 I9; rw [hf]; exact ⟨by decide, hW0.id.thw h9.2.2⟩)) (fun r1 G3 I2 h4 => ?_)
    obtain ⟨e0, e1, e2, e3⟩ := h4
    have e2 := e2.symm
    subst e1; subst e2; subst e3
    have k2 : 1 ≤ n.toInt ∧ n.toInt ≤ 5 := e0.resolve_right (by decide)
    clear e0
    have hpne : p = nI p.toInt.toNat := (mx_nn (k1.1)).symm
    have hpnb : p.toInt.toNat < gP (zG z) := tn_lt k1
    have hpn31 : p.toInt.toNat < 2 ^ 31 := tn31 _
    generalize p.toInt.toNat = pn at hpne hpnb hpn31 ⊢
    subst hpne
    have hnne : n = nI n.toInt.toNat := (mx_nn (by omega)).symm
    have hnnb : 1 ≤ n.toInt.toNat ∧ n.toInt.toNat ≤ 5 := by omega
    have hnn31 : n.toInt.toNat < 2 ^ 31 := tn31 _
    generalize n.toInt.toNat = nn at hnne hnnb hnn31 ⊢
    subst hnne
    have hpw := p1000 hnnb
    have J54 : ∀ (_ : Unit), mx_V mX9_follow mx_S0 8 1 6 54 [some (.ref a), some (.int (nI pn)), some (.int (nI nn)), some (.long row), none, none, none, none, none, none, none] [.int (mx_b (decide (0 ≤ row.toInt ∧ row.toInt < ((1000 ^ nn : Nat) : Int))))] G I (fun rv Gz Iz => fl_follow z (nI pn) (nI nn) row = 0 ∧ rv = some (.int (an_follow z pn nn row.toInt.toNat)) ∧ cP G I a z Gz Iz) (fun E Gz Iz => (fl_follow z (nI pn) (nI nn) row) ≠ 0 ∧ E = exN (fl_follow z (nI pn) (nI nn) row) ∧ cP G I a z Gz Iz) := by
      intro _ 
      refine mx_iconstN 2 dX9_follow_54 (by decide) ?_
      refine mx_callS (As := [.int (mx_b (decide (0 ≤ row.toInt ∧ row.toInt < ((1000 ^ nn : Nat) : Int)))), .int (nI 2)]) (rest := []) (b1 := 1) (b2 := 6) dX9_follow_55 (ct_require G I (0 ≤ row.toInt ∧ row.toInt < ((1000 ^ nn : Nat) : Int)) 2 (by decide)) km_X9_require rfl k_410 k_411 rfl rfl (Nat.le_of_ble_eq_true rfl) (by decide) (fun E G9 I9 h9 => mx_xo rfl (by have hf : fl_follow z (nI pn) (nI nn) row = 2 := (by unfold fl_follow; rw [if_neg (fun q => q k1), if_neg (fun q => q k2), if_pos (by rw [nI_tt hnn31]; exact h9.1)]); show (fl_follow z (nI pn) (nI nn) row) ≠ 0 ∧ E = exN (fl_follow z (nI pn) (nI nn) row) ∧ cP G I a z G9 I9; rw [hf]; exact ⟨by decide, hW0.id.thw h9.2.2⟩)) (fun r5 G7 I6 h8 => ?_)
      obtain ⟨e0, e1, e2, e3⟩ := h8
      have e2 := e2.symm
      subst e1; subst e2; subst e3
      have k9 : 0 ≤ row.toInt ∧ row.toInt < ((1000 ^ nn : Nat) : Int) := e0.resolve_right (by decide)
      clear e0
      have hre : row = lN row.toInt.toNat := lN_nn (k9.1)
      have hrb : row.toInt.toNat < 1000 ^ nn := tn_lt k9
      generalize row.toInt.toNat = r at hre hrb ⊢
      subst hre
      have hr63 : r < 2 ^ 63 := Nat.lt_trans hrb hpw
      have hf0 : fl_follow z (nI pn) (nI nn) (lN r) = 0 := by
        unfold fl_follow
        rw [if_neg (fun q => q k1), if_neg (fun q => q k2), if_neg (fun q => q (by rw [nI_tt hnn31]; exact k9))]
      have L67 : ∀ (f : Nat) (i here ps : Nat), nn + 1 - i < f → (1 ≤ i) → (i ≤ nn + 1) → (here < 8) → (ps < 2 ^ 21) → (flF (zG z) (vA (zX z)) r nn nn 1 pn 1 = flF (zG z) (vA (zX z)) r nn (nn + 1 - i) i here ps) → mx_V mX9_follow mx_S0 8 0 0 67 [some (.ref a), some (.int (nI pn)), some (.int (nI nn)), some (.long (lN r)), none, some (.int (nI here)), some (.int (nI ps)), some (.int (nI i)), none, none, none] [] G I (fun rv Gz Iz => fl_follow z (nI pn) (nI nn) (lN r) = 0 ∧ rv = some (.int (an_follow z pn nn r)) ∧ cP G I a z Gz Iz) (fun E Gz Iz => (fl_follow z (nI pn) (nI nn) (lN r)) ≠ 0 ∧ E = exN (fl_follow z (nI pn) (nI nn) (lN r)) ∧ cP G I a z Gz Iz) := by
        intro f
        induction f with
        | zero => intro i here ps hfu; exact absurd hfu (Nat.not_lt_zero _)
        | succ f ih =>
          intro i here ps hfu hi1 hi hh hps hx
          refine mx_iload (i := 7) (hl := rfl) (hd := dX9_follow_67) ?_
          refine mx_iload_n (i := 2) (hi := rfl) (hl := rfl) (hd := dX9_follow_69) ?_
          refine mx_cmpN_gt 189 dX9_follow_70 (by decide) (by omega) (by omega) (fun c70 => ?_) (fun c70 => ?_)
          · skip
            refine mx_aload_n (i := 0) (hi := rfl) (hl := rfl) (hd := dX9_follow_189) ?_
            refine mx_getR (ci := 9) (k := 3) (r := (a + 37)) dX9_follow_190 k_326 (by decide) rfl (by assumption) (by assumption) (by omega) ?_
            refine mx_getR (ci := 6) (k := 6) (r := pt) dX9_follow_193 k_220 (by decide) rfl (by assumption) (by assumption) (by omega) ?_
            refine mx_iload (i := 6) (hl := rfl) (hd := dX9_follow_196) ?_
            refine mx_callVp (ci := 2) (As := [.int (nI ps)]) (rest := []) dX9_follow_198 (ct_accepts G I pt _ he0.2.1 hpn ps hps) km_X2_accepts rfl k_538 k_539 k_540 (by assumption) rfl rfl (Nat.le_of_ble_eq_true rfl) (by decide) ?_
            refine mx_ifB_eq 209 dX9_follow_201 (by decide) (fun c201 => ?_) (fun c201 => ?_)
            · skip
              refine mx_iload_n (i := 2) (hi := rfl) (hl := rfl) (hd := dX9_follow_209) ?_
              refine mx_iconstN 1 dX9_follow_210 (by decide) ?_
              refine mx_iaddN dX9_follow_211 ?_
              exact mx_iret dX9_follow_212 rfl rfl (⟨hf0, by unfold an_follow; rw [hx, show nn + 1 - i = 0 by omega, flF, if_neg c201], hW0.id⟩)
            · skip
              refine mx_bipush (v := (-9)) (by decide) dX9_follow_204 ?_
              refine mx_goto (tgt := 212) dX9_follow_206 (by decide) ?_
              exact mx_iret dX9_follow_212 rfl rfl (⟨hf0, by unfold an_follow; rw [hx, show nn + 1 - i = 0 by omega, flF, if_pos c201], hW0.id⟩)
          · skip
            refine mx_lload_n (i := 3) (hi := rfl) (hl := rfl) (hd := dX9_follow_73) ?_
            refine mx_ldc2 (v := (1000)) k_919 dX9_follow_74 ?_
            refine mx_topl (y := lN 1000) (rfl) ?_
            refine mx_iload_n (i := 2) (hi := rfl) (hl := rfl) (hd := dX9_follow_77) ?_
            refine mx_iload (i := 7) (hl := rfl) (hd := dX9_follow_78) ?_
            refine mx_isubN dX9_follow_80 (by omega) ?_
            refine mx_callSp (As := [.long (lN r), .long (lN 1000), .int (nI (nn - i))]) (rest := []) dX9_follow_81 (ct_group G I r 1000 (nn - i) hr63 (by decide) (by omega)) km_X9_group rfl k_923 k_924 rfl rfl (Nat.le_of_ble_eq_true rfl) (by decide) ?_
            have hgo9 : (r / 1000 ^ (nn - i) % 1000) < 1000 := Nat.mod_lt _ (by decide)
            have hst := flF_g (v := zG z) (A := vA (zX z)) (f := nn - i) (here := here) (ps := ps) (rfl : (r / 1000 ^ (nn - i) % 1000) = (r / 1000 ^ (nn - i) % 1000))
            rw [show nn - i + 1 = nn + 1 - i by omega] at hst
            generalize (r / 1000 ^ (nn - i) % 1000) = go at hgo9 hst ⊢
            refine mx_istoreE (i := 8) (ls' := [some (.ref a), some (.int (nI pn)), some (.int (nI nn)), some (.long (lN r)), none, some (.int (nI here)), some (.int (nI ps)), some (.int (nI i)), some (.int (nI go)), none, none]) (hd := dX9_follow_84) (hn := by decide) (hok := rfl) (hls := rfl) ?_
            refine mx_iload (i := 8) (hl := rfl) (hd := dX9_follow_86) ?_
            refine mx_bipushN 10 dX9_follow_88 (by decide) ?_
            refine mx_idivN dX9_follow_90 (by omega) (by decide) ?_
            refine mx_istoreE (i := 9) (ls' := [some (.ref a), some (.int (nI pn)), some (.int (nI nn)), some (.long (lN r)), none, some (.int (nI here)), some (.int (nI ps)), some (.int (nI i)), some (.int (nI go)), some (.int (nI (go / 10))), none]) (hd := dX9_follow_91) (hn := by decide) (hok := rfl) (hls := rfl) ?_
            refine mx_iload (i := 8) (hl := rfl) (hd := dX9_follow_93) ?_
            refine mx_bipushN 10 dX9_follow_95 (by decide) ?_
            refine mx_iremN dX9_follow_97 (by omega) (by decide) ?_
            refine mx_istoreE (i := 10) (ls' := [some (.ref a), some (.int (nI pn)), some (.int (nI nn)), some (.long (lN r)), none, some (.int (nI here)), some (.int (nI ps)), some (.int (nI i)), some (.int (nI go)), some (.int (nI (go / 10))), some (.int (nI (go % 10)))]) (hd := dX9_follow_98) (hn := by decide) (hok := rfl) (hls := rfl) ?_
            refine mx_aload_n (i := 0) (hi := rfl) (hl := rfl) (hd := dX9_follow_100) ?_
            refine mx_getR (ci := 9) (k := 3) (r := (a + 37)) dX9_follow_101 k_326 (by decide) rfl (by assumption) (by assumption) (by omega) ?_
            refine mx_iload (i := 9) (hl := rfl) (hd := dX9_follow_104) ?_
            refine mx_callVp (ci := 6) (As := [.int (nI (go / 10))]) (rest := []) dX9_follow_106 (ct_hasStepN G I (a + 37) _ oSt0 hSv (go / 10) (by omega)) km_X6_hasStep rfl k_602 k_603 k_604 (by assumption) rfl rfl (Nat.le_of_ble_eq_true rfl) (by decide) ?_
            refine mx_ifB_eq 134 dX9_follow_109 (by decide) (fun c109 => ?_) (fun c109 => ?_)
            · skip
              refine mx_iload (i := 7) (hl := rfl) (hd := dX9_follow_134) ?_
              exact mx_iret dX9_follow_136 rfl rfl (⟨hf0, by unfold an_follow; rw [hx, hst, if_neg (by first | exact fun z9 => c109 z9.1 | exact fun z9 => absurd z9.2.1 (by omega) | exact fun z9 => c131 z9.2.2)], hW0.id⟩)
            · skip
              refine mx_iload (i := 10) (hl := rfl) (hd := dX9_follow_112) ?_
              refine mx_iconstN 1 dX9_follow_114 (by decide) ?_
              refine mx_cmpN_gt 134 dX9_follow_115 (by decide) (by omega) (by omega) (fun c115 => ?_) (fun c115 => ?_)
              · skip
                refine mx_iload (i := 7) (hl := rfl) (hd := dX9_follow_134) ?_
                exact mx_iret dX9_follow_136 rfl rfl (⟨hf0, by unfold an_follow; rw [hx, hst, if_neg (by first | exact fun z9 => c109 z9.1 | exact fun z9 => absurd z9.2.1 (by omega) | exact fun z9 => c131 z9.2.2)], hW0.id⟩)
              · skip
                refine mx_aload_n (i := 0) (hi := rfl) (hl := rfl) (hd := dX9_follow_118) ?_
                refine mx_getR (ci := 9) (k := 3) (r := (a + 37)) dX9_follow_119 k_326 (by decide) rfl (by assumption) (by assumption) (by omega) ?_
                refine mx_iload (i := 9) (hl := rfl) (hd := dX9_follow_122) ?_
                refine mx_iload (i := 10) (hl := rfl) (hd := dX9_follow_124) ?_
                refine mx_callVp (ci := 6) (As := [.int (nI (go / 10)), .int (nI (go % 10))]) (rest := []) dX9_follow_126 (ct_beginOf G I (a + 37) _ oSt0 hSv (go / 10) (go % 10) c109 (by omega)) km_X6_beginOf rfl k_881 k_858 k_859 (by assumption) rfl rfl (Nat.le_of_ble_eq_true rfl) (by decide) ?_
                refine mx_iload (i := 5) (hl := rfl) (hd := dX9_follow_129) ?_
                refine mx_cmpN_eq 137 dX9_follow_131 (by decide) (gx31 (hvb _ c109).1 (hvb _ c109).2.2.1) (by omega) (fun c131 => ?_) (fun c131 => ?_)
                · skip
                  refine mx_aload_n (i := 0) (hi := rfl) (hl := rfl) (hd := dX9_follow_137) ?_
                  refine mx_getR (ci := 9) (k := 3) (r := (a + 37)) dX9_follow_138 k_326 (by decide) rfl (by assumption) (by assumption) (by omega) ?_
                  refine mx_aload_n (i := 0) (hi := rfl) (hl := rfl) (hd := dX9_follow_141) ?_
                  refine mx_getR (ci := 9) (k := 3) (r := (a + 37)) dX9_follow_142 k_326 (by decide) rfl (by assumption) (by assumption) (by omega) ?_
                  refine mx_getR (ci := 6) (k := 6) (r := pt) dX9_follow_145 k_220 (by decide) rfl (by assumption) (by assumption) (by omega) ?_
                  refine mx_iload (i := 6) (hl := rfl) (hd := dX9_follow_148) ?_
                  refine mx_callVp (ci := 2) (As := [.int (nI ps)]) (rest := [.ref (a + 37)]) dX9_follow_150 (ct_following G I pt _ he0.2.1 hpn ps hps) km_X2_following rfl k_880 k_576 k_577 (by assumption) rfl rfl (Nat.le_of_ble_eq_true rfl) (by decide) ?_
                  refine mx_iload (i := 9) (hl := rfl) (hd := dX9_follow_153) ?_
                  refine mx_iload (i := 10) (hl := rfl) (hd := dX9_follow_155) ?_
                  refine mx_callVp (ci := 6) (As := [.int (nI (pFol (vA (zX z)) ps)), .int (nI (go / 10)), .int (nI (go % 10))]) (rest := []) dX9_follow_157 (ct_enter G I (a + 37) pt _ _ he0 (pFol (vA (zX z)) ps) (go / 10) (go % 10) c109 (by omega)) km_X6_enter rfl k_882 k_584 k_585 (by assumption) rfl rfl (Nat.le_of_ble_eq_true rfl) (by decide) ?_
                  refine mx_istoreE (i := 6) (ls' := [some (.ref a), some (.int (nI pn)), some (.int (nI nn)), some (.long (lN r)), none, some (.int (nI here)), some (.int (nI (pFol (vA (zX z)) ps &&& pEn (vA (zX z)) (go % 10) (gK (zG z) (go / 10))))), some (.int (nI i)), some (.int (nI go)), some (.int (nI (go / 10))), some (.int (nI (go % 10)))]) (hd := dX9_follow_160) (hn := by decide) (hok := rfl) (hls := rfl) ?_
                  refine mx_iload (i := 6) (hl := rfl) (hd := dX9_follow_162) ?_
                  refine mx_ifN_ne 170 dX9_follow_164 (by decide) (Nat.lt_trans (mx_and_lt (pFol_lt hwfp ps)) (by decide)) (fun c164 => ?_) (fun c164 => ?_)
                  · skip
                    refine mx_aload_n (i := 0) (hi := rfl) (hl := rfl) (hd := dX9_follow_170) ?_
                    refine mx_getR (ci := 9) (k := 3) (r := (a + 37)) dX9_follow_171 k_326 (by decide) rfl (by assumption) (by assumption) (by omega) ?_
                    refine mx_iload (i := 9) (hl := rfl) (hd := dX9_follow_174) ?_
                    refine mx_iload (i := 10) (hl := rfl) (hd := dX9_follow_176) ?_
                    refine mx_callVp (ci := 6) (As := [.int (nI (go / 10)), .int (nI (go % 10))]) (rest := []) dX9_follow_178 (ct_endOf G I (a + 37) _ oSt0 hSv (go / 10) (go % 10) c109 (by omega)) km_X6_endOf rfl k_883 k_862 k_863 (by assumption) rfl rfl (Nat.le_of_ble_eq_true rfl) (by decide) ?_
                    refine mx_istoreE (i := 5) (ls' := [some (.ref a), some (.int (nI pn)), some (.int (nI nn)), some (.long (lN r)), none, some (.int (nI (if go % 10 = 0 then gT (zG z) (go / 10) else gF (zG z) (go / 10)))), some (.int (nI (pFol (vA (zX z)) ps &&& pEn (vA (zX z)) (go % 10) (gK (zG z) (go / 10))))), some (.int (nI i)), some (.int (nI go)), some (.int (nI (go / 10))), some (.int (nI (go % 10)))]) (hd := dX9_follow_181) (hn := by decide) (hok := rfl) (hls := rfl) ?_
                    refine mx_iincE (i := 7) (ls' := [some (.ref a), some (.int (nI pn)), some (.int (nI nn)), some (.long (lN r)), none, some (.int (nI (if go % 10 = 0 then gT (zG z) (go / 10) else gF (zG z) (go / 10)))), some (.int (nI (pFol (vA (zX z)) ps &&& pEn (vA (zX z)) (go % 10) (gK (zG z) (go / 10))))), some (.int (nI (i + 1))), some (.int (nI go)), some (.int (nI (go / 10))), some (.int (nI (go % 10)))]) 1 dX9_follow_183 rfl (by decide) (by decide) rfl rfl ?_
                    refine mx_goto (tgt := 67) dX9_follow_186 (by decide) ?_
                    refine mx_leS (ls' := [some (.ref a), some (.int (nI pn)), some (.int (nI nn)), some (.long (lN r)), none, some (.int (nI (if go % 10 = 0 then gT (zG z) (go / 10) else gF (zG z) (go / 10)))), some (.int (nI (pFol (vA (zX z)) ps &&& pEn (vA (zX z)) (go % 10) (gK (zG z) (go / 10))))), some (.int (nI (i + 1))), none, none, none]) ⟨rfl, rfl, rfl, rfl, rfl, rfl, rfl, trivial⟩ ?_
                    exact ih (i + 1) _ _ (by omega) (by omega) (by omega) (gx8 (hvb _ c109).2.2.1 (hvb _ c109).1) (mx_and_lt (pFol_lt hwfp ps)) (by rw [hx, hst, if_pos ⟨c109, by omega, c131⟩, if_neg c164, show nn + 1 - (i + 1) = nn - i by omega])
                  · skip
                    refine mx_iload (i := 7) (hl := rfl) (hd := dX9_follow_167) ?_
                    exact mx_iret dX9_follow_169 rfl rfl (⟨hf0, by unfold an_follow; rw [hx, hst, if_pos ⟨c109, by omega, c131⟩, if_pos c164], hW0.id⟩)
                · skip
                  refine mx_iload (i := 7) (hl := rfl) (hd := dX9_follow_134) ?_
                  exact mx_iret dX9_follow_136 rfl rfl (⟨hf0, by unfold an_follow; rw [hx, hst, if_neg (by first | exact fun z9 => c109 z9.1 | exact fun z9 => absurd z9.2.1 (by omega) | exact fun z9 => c131 z9.2.2)], hW0.id⟩)
      refine mx_iload_n (i := 1) (hi := rfl) (hl := rfl) (hd := dX9_follow_58) ?_
      refine mx_istoreE (i := 5) (ls' := [some (.ref a), some (.int (nI pn)), some (.int (nI nn)), some (.long (lN r)), none, some (.int (nI pn)), none, none, none, none, none]) (hd := dX9_follow_59) (hn := by decide) (hok := rfl) (hls := rfl) ?_
      refine mx_iconstN 1 dX9_follow_61 (by decide) ?_
      refine mx_istoreE (i := 6) (ls' := [some (.ref a), some (.int (nI pn)), some (.int (nI nn)), some (.long (lN r)), none, some (.int (nI pn)), some (.int (nI 1)), none, none, none, none]) (hd := dX9_follow_62) (hn := by decide) (hok := rfl) (hls := rfl) ?_
      refine mx_iconstN 1 dX9_follow_64 (by decide) ?_
      refine mx_istoreE (i := 7) (ls' := [some (.ref a), some (.int (nI pn)), some (.int (nI nn)), some (.long (lN r)), none, some (.int (nI pn)), some (.int (nI 1)), some (.int (nI 1)), none, none, none]) (hd := dX9_follow_65) (hn := by decide) (hok := rfl) (hls := rfl) ?_
      exact L67 _ 1 pn 1 (Nat.lt_succ_self _) (Nat.le_refl _) (by omega) (by omega) (by decide) (by rw [show nn + 1 - 1 = nn by omega])
    refine mx_lload_n (i := 3) (hi := rfl) (hl := rfl) (hd := dX9_follow_31) ?_
    refine mx_lconst (v := 0) (by decide) dX9_follow_32 ?_
    refine mx_lcmp dX9_follow_33 ?_
    refine mx_ifR_lt 53 dX9_follow_34 (by decide) (fun c34 => ?_) (fun c34 => ?_)
    · skip
      have d34 := lgc_lt0.mp c34
      refine mx_iconstN 0 dX9_follow_53 (by decide) ?_
      refine mx_top (y := mx_b (decide (0 ≤ row.toInt ∧ row.toInt < ((1000 ^ nn : Nat) : Int)))) (mx_bF (by first | omega | (rw [pk_lT hpw] at d46; omega))) ?_
      exact J54 () 
    · skip
      have d34 : ¬ row.toInt < 0 := fun q => c34 (lgc_lt0.mpr q)
      refine mx_lload_n (i := 3) (hi := rfl) (hl := rfl) (hd := dX9_follow_37) ?_
      refine mx_ldc2 (v := (1000)) k_919 dX9_follow_38 ?_
      refine mx_topl (y := lN 1000) (rfl) ?_
      refine mx_iload_n (i := 2) (hi := rfl) (hl := rfl) (hd := dX9_follow_41) ?_
      refine mx_callSp (As := [.long (lN 1000), .int (nI nn)]) (rest := [.long row]) dX9_follow_42 (ct_power G I 1000 nn (by omega)) km_X9_power rfl k_920 k_921 rfl rfl (Nat.le_of_ble_eq_true rfl) (by decide) ?_
      refine mx_lcmp dX9_follow_45 ?_
      refine mx_ifR_ge 53 dX9_follow_46 (by decide) (fun c46 => ?_) (fun c46 => ?_)
      · skip
        have d46 := lgc_ge.mp c46
        refine mx_iconstN 0 dX9_follow_53 (by decide) ?_
        refine mx_top (y := mx_b (decide (0 ≤ row.toInt ∧ row.toInt < ((1000 ^ nn : Nat) : Int)))) (mx_bF (by first | omega | (rw [pk_lT hpw] at d46; omega))) ?_
        exact J54 () 
      · skip
        have d46 : ¬ (lN (1000 ^ nn)).toInt ≤ row.toInt := fun q => c46 (lgc_ge.mpr q)
        refine mx_iconstN 1 dX9_follow_49 (by decide) ?_
        refine mx_goto (tgt := 54) dX9_follow_50 (by decide) ?_
        refine mx_top (y := mx_b (decide (0 ≤ row.toInt ∧ row.toInt < ((1000 ^ nn : Nat) : Int)))) (mx_bT (by rw [pk_lT hpw] at d46; omega)) ?_
        exact J54 () 
  refine mx_aload_n (i := 0) (hi := rfl) (hl := rfl) (hd := dX9_follow_0) ?_
  refine mx_getR (ci := 9) (k := 3) (r := (a + 37)) dX9_follow_1 k_326 (by decide) rfl (by assumption) (by assumption) (by omega) ?_
  refine mx_iload_n (i := 1) (hi := rfl) (hl := rfl) (hd := dX9_follow_4) ?_
  refine mx_callVp (ci := 6) (As := [.int p]) (rest := []) dX9_follow_5 (ct_hasPerson G I (a + 37) _ oSt0 hSv p) km_X6_hasPerson rfl k_613 k_388 k_389 (by assumption) rfl rfl (Nat.le_of_ble_eq_true rfl) (by decide) ?_
  refine mx_iconstN 1 dX9_follow_8 (by decide) ?_
  refine mx_callS (As := [.int (mx_b (decide (0 ≤ p.toInt ∧ p.toInt < (gP (zG z) : Int)))), .int (nI 1)]) (rest := []) (b1 := 1) (b2 := 6) dX9_follow_9 (ct_require G I (0 ≤ p.toInt ∧ p.toInt < (gP (zG z) : Int)) 1 (by decide)) km_X9_require rfl k_410 k_411 rfl rfl (Nat.le_of_ble_eq_true rfl) (by decide) (fun E G9 I9 h9 => mx_xo rfl (by have hf : fl_follow z p n row = 1 := (by unfold fl_follow; rw [if_pos h9.1]); show (fl_follow z p n row) ≠ 0 ∧ E = exN (fl_follow z p n row) ∧ cP G I a z G9 I9; rw [hf]; exact ⟨by decide, hW0.id.thw h9.2.2⟩)) (fun r9 G11 I10 h12 => ?_)
  obtain ⟨e0, e1, e2, e3⟩ := h12
  have e2 := e2.symm
  subst e1; subst e2; subst e3
  have k1 : 0 ≤ p.toInt ∧ p.toInt < (gP (zG z) : Int) := e0.resolve_right (by decide)
  clear e0
  refine mx_iload_n (i := 2) (hi := rfl) (hl := rfl) (hd := dX9_follow_12) ?_
  refine mx_iconstN 1 dX9_follow_13 (by decide) ?_
  refine mx_cmpRN_lt 26 dX9_follow_14 (by decide) (by omega) (fun c14 => ?_) (fun c14 => ?_)
  · skip
    refine mx_iconstN 0 dX9_follow_26 (by decide) ?_
    refine mx_top (y := mx_b (decide (1 ≤ n.toInt ∧ n.toInt ≤ 5))) (mx_bF (by omega)) ?_
    exact J27 () k1
  · skip
    refine mx_iload_n (i := 2) (hi := rfl) (hl := rfl) (hd := dX9_follow_17) ?_
    refine mx_iconstN 5 dX9_follow_18 (by decide) ?_
    refine mx_cmpRN_gt 26 dX9_follow_19 (by decide) (by omega) (fun c19 => ?_) (fun c19 => ?_)
    · skip
      refine mx_iconstN 0 dX9_follow_26 (by decide) ?_
      refine mx_top (y := mx_b (decide (1 ≤ n.toInt ∧ n.toInt ≤ 5))) (mx_bF (by omega)) ?_
      exact J27 () k1
    · skip
      refine mx_iconstN 1 dX9_follow_22 (by decide) ?_
      refine mx_goto (tgt := 27) dX9_follow_23 (by decide) ?_
      refine mx_top (y := mx_b (decide (1 ≤ n.toInt ∧ n.toInt ≤ 5))) (mx_bT (by omega)) ?_
      exact J27 () k1
