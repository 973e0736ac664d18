/-! THE METHODS OF StepPaths: longs, follow -/
theorem tn31 (x : Int32) : x.toInt.toNat < 2 ^ 31 := by have := Int32.toInt_lt x; omega
theorem tn_lt {x : Int} {n : Nat} (h : 0 ≤ x ∧ x < (n : Int)) : x.toNat < n := by omega
theorem lgc_lt {x y : Int64} : (lg_cmp x y).toInt < 0 ↔ x.toInt < y.toInt := by
  have h := lg_cmp_lt x y
  rw [Int32.lt_iff_toInt_lt, Int64.lt_iff_toInt_lt] at h
  exact h
theorem lgc_ge {x y : Int64} : 0 ≤ (lg_cmp x y).toInt ↔ y.toInt ≤ x.toInt := by
  have h := lg_cmp_ge x y
  rw [Int32.le_iff_toInt_le, Int64.le_iff_toInt_le] at h
  exact h
theorem lgc_lt0 {x : Int64} : (lg_cmp x (0 : Int64)).toInt < 0 ↔ x.toInt < 0 := lgc_lt
theorem lN_nn {x : Int64} (h : 0 ≤ x.toInt) : x = lN x.toInt.toNat := by
  obtain ⟨k, hk, rfl⟩ := pk_lOf (x := x) (fun q => by rw [Int64.lt_iff_toInt_lt] at q; exact absurd h (by have : x.toInt < 0 := q; omega))
  rw [pk_lT hk]
  rfl
theorem lN_tt {n : Nat} (h : n < 2 ^ 63) : (lN n).toInt.toNat = n := by rw [pk_lT h]; rfl
theorem lgc_gt0 {x y : Int64} : 0 < (lg_cmp x y).toInt ↔ y.toInt < x.toInt := by
  have h := lg_cmp_gt x y
  rw [Int32.lt_iff_toInt_lt, Int64.lt_iff_toInt_lt] at h
  exact h
theorem lgc_N0 {n : Nat} (h : n < 2 ^ 63) : lg_cmp (lN n) (0 : Int64) = 0 ↔ n = 0 := by
  constructor
  · intro e
    have h1 := @lgc_lt (lN n) 0
    have h2 := @lgc_gt0 (lN n) 0
    rw [e, pk_lT h] at h1 h2
    have z : (0 : Int32).toInt = 0 := rfl
    have z6 : (0 : Int64).toInt = 0 := rfl
    rw [z, z6] at h1 h2
    omega
  · intro e
    subst e
    decide
theorem p10_3 (k : Nat) : 10 ^ (3 * k) = 1000 ^ k := by rw [Nat.pow_mul]
theorem p10_5 (k : Nat) : 10 ^ (5 * k) = 100000 ^ k := by rw [Nat.pow_mul]
/-- the number that a long, not negative, is; and whether nothing is left of it without its lowest digits -/
theorem lN_row {x : Int64} (h : ¬ x.toInt < 0) : x = lN x.toInt.toNat := lN_nn (by omega)
theorem lN_63 (x : Int64) : x.toInt.toNat < 2 ^ 63 := by have := Int64.toInt_lt x; omega
theorem wo_iff {x : Int64} {b : Nat} (hb : 0 < b) (h : ¬ x.toInt < 0) : (lg_cmp (lN (x.toInt.toNat / b)) (0 : Int64) = 0) ↔ (0 ≤ x.toInt ∧ x.toInt < (b : Int)) := by
  rw [lgc_N0 (Nat.lt_of_le_of_lt (Nat.div_le_self _ _) (lN_63 x)), Nat.div_eq_zero_iff]
  omega
theorem dm_step (x b i : Nat) : x / b ^ i / b = x / b ^ (i + 1) := by rw [Nat.div_div_eq_div_mul, Nat.pow_succ]

set_option maxHeartbeats 4000000 in
set_option maxRecDepth 100000 in
theorem ct_without (G : mx_G) (I : mx_I) (x k : Nat) (hx : x < 2 ^ 63) (hk : k < 2 ^ 31) : mx_CTp yX9_without mX9_without 1 [.long (lN x), .int (nI k)] G I (some (.long (lN (x / 10 ^ k)))) := by
  refine mx_start (k := 3) (by decide) rfl rfl (fun h => nomatch h) (Nat.le_of_ble_eq_true rfl) ?_
  show mx_V mX9_without mx_S0 1 0 0 0 [some (.long (lN x)), none, some (.int (nI k)), none, none, none] [] G I (fun rv Gz Iz => rv = some (.long (lN (x / 10 ^ k))) ∧ Gz = G ∧ Iz = I) (fun _ _ _ => False)
  have hb0 : ¬ lN 10 = 0 := by decide
  have hle : ∀ i, x / 10 ^ i < 2 ^ 63 := fun i => Nat.lt_of_le_of_lt (Nat.div_le_self _ _) hx
  have hx0 : lN x = lN (x / 10 ^ 0) := by rw [Nat.pow_zero, Nat.div_one]
  have L5 : ∀ (fq : Nat) (i : Nat), k - i < fq → (i ≤ k) → mx_V mX9_without mx_S0 1 0 0 5 [some (.long (lN x)), none, some (.int (nI k)), some (.long (lN (x / 10 ^ i))), none, some (.int (nI i))] [] G I (fun rv Gz Iz => rv = some (.long (lN (x / 10 ^ k))) ∧ Gz = G ∧ Iz = I) (fun _ _ _ => False) := by
    intro fq
    induction fq with
    | zero => intro i hfu; exact absurd hfu (Nat.not_lt_zero _)
    | succ fq ih =>
      intro i hfu hi
      refine mx_iload (i := 5) (hl := rfl) (hd := dX9_without_5) ?_
      refine mx_iload_n (i := 2) (hi := rfl) (hl := rfl) (hd := dX9_without_7) ?_
      refine mx_cmpN_ge 23 dX9_without_8 (by decide) (by omega) (by omega) (fun c8 => ?_) (fun c8 => ?_)
      · skip
        refine mx_lload_n (i := 3) (hi := rfl) (hl := rfl) (hd := dX9_without_23) ?_
        exact mx_lret dX9_without_24 rfl (⟨by rw [show i = k by omega], rfl, rfl⟩)
      · skip
        refine mx_lload_n (i := 3) (hi := rfl) (hl := rfl) (hd := dX9_without_11) ?_
        refine mx_ldc2 (v := (10)) k_447 dX9_without_12 ?_
        refine mx_topl (y := lN 10) (rfl) ?_
        refine mx_ldiv (hb0) dX9_without_15 ?_
        refine mx_topl (y := lN (x / 10 ^ (i + 1))) (by rw [pk_lDiv (hle i) (by decide) (by decide), dm_step]) ?_
        refine mx_lstoreE_n (i := 3) (ls' := [some (.long (lN x)), none, some (.int (nI k)), some (.long (lN (x / 10 ^ (i + 1)))), none, some (.int (nI i))]) (hi := rfl) (hd := dX9_without_16) (hn := by decide) (hok := rfl) (hls := rfl) ?_
        refine mx_iincE (i := 5) (ls' := [some (.long (lN x)), none, some (.int (nI k)), some (.long (lN (x / 10 ^ (i + 1)))), none, some (.int (nI (i + 1)))]) 1 dX9_without_17 rfl (by decide) (by decide) rfl rfl ?_
        refine mx_goto (tgt := 5) dX9_without_20 (by decide) ?_
        exact ih (i + 1) (by omega) (by omega)
  refine mx_lload_n (i := 0) (hi := rfl) (hl := rfl) (hd := dX9_without_0) ?_
  refine mx_topl (y := lN (x / 10 ^ 0)) (hx0) ?_
  refine mx_lstoreE_n (i := 3) (ls' := [some (.long (lN x)), none, some (.int (nI k)), some (.long (lN (x / 10 ^ 0))), none, none]) (hi := rfl) (hd := dX9_without_1) (hn := by decide) (hok := rfl) (hls := rfl) ?_
  refine mx_iconstN 0 dX9_without_2 (by decide) ?_
  refine mx_istoreE (i := 5) (ls' := [some (.long (lN x)), none, some (.int (nI k)), some (.long (lN (x / 10 ^ 0))), none, some (.int (nI 0))]) (hd := dX9_without_3) (hn := by decide) (hok := rfl) (hls := rfl) ?_
  exact L5 _ 0 (Nat.lt_succ_self _) (Nat.zero_le _)

theorem ct_hasPersonN (G : mx_G) (I : mx_I) (o : Nat) (v : Gr) (hs : oST G o) (hv : stN I o v) (p : Nat) (hp : p < 2 ^ 31) : mx_CTp yX6_hasPerson mX6_hasPerson 1 [.ref o, .int (nI p)] G I (some (.int (mx_b (decide (p < gP v))))) :=
  (ct_hasPerson G I o v hs hv (nI p)).eq rfl (by rw [nI_toInt hp]; exact congrArg (fun z => some (Value.int (mx_b z))) (decide_eq_decide.mpr (by omega)))
theorem ct_hasStepN (G : mx_G) (I : mx_I) (o : Nat) (v : Gr) (hs : oST G o) (hv : stN I o v) (p : Nat) (hp : p < 2 ^ 31) : mx_CTp yX6_hasStep mX6_hasStep 1 [.ref o, .int (nI p)] G I (some (.int (mx_b (decide (p < gN v))))) :=
  (ct_hasStep G I o v hs hv (nI p)).eq rfl (by rw [nI_toInt hp]; exact congrArg (fun z => some (Value.int (mx_b z))) (decide_eq_decide.mpr (by omega)))
theorem ct_hasPeopleN (G : mx_G) (I : mx_I) (o : Nat) (v : Gr) (hs : oST G o) (hv : stN I o v) (p q : Nat) (hp : p < 2 ^ 31) (hq : q < 2 ^ 31) : mx_CTp yX6_hasPeople mX6_hasPeople 2 [.ref o, .int (nI p), .int (nI q)] G I (some (.int (mx_b (decide (p < gP v ∧ q < gP v))))) :=
  (ct_hasPeople G I o v hs hv (nI p) (nI q)).eq rfl (by rw [nI_toInt hp, nI_toInt hq]; exact congrArg (fun z => some (Value.int (mx_b z))) (decide_eq_decide.mpr (by omega)))
theorem ct_isKindN (G : mx_G) (I : mx_I) (p : Nat) (hp : p < 2 ^ 31) : mx_CTp yX9_isKind mX9_isKind 1 [.int (nI p)] G I (some (.int (mx_b (decide (p < 4))))) :=
  (ct_isKind G I (nI p)).eq rfl (by rw [nI_toInt hp]; exact congrArg (fun z => some (Value.int (mx_b z))) (decide_eq_decide.mpr (by omega)))
/-- how far a row of goings goes, from going i on, at a person, at some positions -/
def flF (v : Gr) (A : Pa) (r n : Nat) : Nat → Nat → Nat → Nat → Int32
  | 0, _, _, ps => if ¬ ps &&& pAc A = 0 then -9 else nI (n + 1)
  | f + 1, i, here, ps =>
    if r / 1000 ^ (n - i) % 1000 / 10 < gN v ∧ r / 1000 ^ (n - i) % 1000 % 10 ≤ 1 ∧ (if r / 1000 ^ (n - i) % 1000 % 10 = 0 then gF v (r / 1000 ^ (n - i) % 1000 / 10) else gT v (r / 1000 ^ (n - i) % 1000 / 10)) = here then
      (if pFol A ps &&& pEn A (r / 1000 ^ (n - i) % 1000 % 10) (gK v (r / 1000 ^ (n - i) % 1000 / 10)) = 0 then nI i
       else flF v A r n f (i + 1) (if r / 1000 ^ (n - i) % 1000 % 10 = 0 then gT v (r / 1000 ^ (n - i) % 1000 / 10) else gF v (r / 1000 ^ (n - i) % 1000 / 10)) (pFol A ps &&& pEn A (r / 1000 ^ (n - i) % 1000 % 10) (gK v (r / 1000 ^ (n - i) % 1000 / 10))))
    else nI i
theorem flF_g {v : Gr} {A : Pa} {r n f i here ps go : Nat} (h : r / 1000 ^ (n - i) % 1000 = go) : flF v A r n (f + 1) i here ps = if go / 10 < gN v ∧ go % 10 ≤ 1 ∧ (if go % 10 = 0 then gF v (go / 10) else gT v (go / 10)) = here then (if pFol A ps &&& pEn A (go % 10) (gK v (go / 10)) = 0 then nI i else flF v A r n f (i + 1) (if go % 10 = 0 then gT v (go / 10) else gF v (go / 10)) (pFol A ps &&& pEn A (go % 10) (gK v (go / 10)))) else nI i := by
  subst h
  rfl
def fl_follow (z : Zs) (p n : Int32) (row : Int64) : Nat := if ¬ (0 ≤ p.toInt ∧ p.toInt < (gP (zG z) : Int)) then 1 else if ¬ (1 ≤ n.toInt ∧ n.toInt ≤ 5) then 2 else if ¬ (0 ≤ row.toInt ∧ row.toInt < ((1000 ^ n.toInt.toNat : Nat) : Int)) then 2 else 0
def an_follow (z : Zs) (p n r : Nat) : Int32 := flF (zG z) (vA (zX z)) r n n 1 p 1
theorem p1000 {n : Nat} (h : 1 ≤ n ∧ n ≤ 5) : 1000 ^ n < 2 ^ 63 := Nat.lt_of_le_of_lt (Nat.pow_le_pow_right (by decide) h.2) (by decide)

theorem gx8 {c : Prop} [Decidable c] {x y : Nat} (h1 : x < 8) (h2 : y < 8) : (if c then x else y) < 8 := by
  split
  · exact h1
  · exact h2
theorem gx31 {c : Prop} [Decidable c] {x y : Nat} (h1 : x < 8) (h2 : y < 8) : (if c then x else y) < 2 ^ 31 := by
  split <;> omega

set_option maxHeartbeats 1000000 in
set_option maxRecDepth 100000 in
theorem ct_follow (G : mx_G) (I : mx_I) (a : Nat) (z : Zs) (hW : cW G I a z) (p n : Int32) (row : Int64) : mx_CT yX9_follow mX9_follow 8 3 18 [.ref a, .int p, .int n, .long row] G I (fun rv Gz Iz => fl_follow z p n row = 0 ∧ rv = some (.int (an_follow z p.toInt.toNat n.toInt.toNat row.toInt.toNat)) ∧ cP G I a z Gz Iz) (fun E Gz Iz => (fl_follow z p n row) ≠ 0 ∧ E = exN (fl_follow z p n row) ∧ cP G I a z Gz Iz) := by
  refine mx_start (k := 6) (by decide) rfl rfl (fun h => nomatch h) (Nat.le_of_ble_eq_true rfl) ?_
  show mx_V mX9_follow mx_S0 8 3 18 0 [some (.ref a), some (.int p), some (.int n), some (.long row), none, none, none, none, none, none, none] [] G I (fun rv Gz Iz => fl_follow z p n row = 0 ∧ rv = some (.int (an_follow z p.toInt.toNat n.toInt.toNat row.toInt.toNat)) ∧ cP G I a z Gz Iz) (fun E Gz Iz => (fl_follow z p n row) ≠ 0 ∧ E = exN (fl_follow z p n row) ∧ cP G I a z Gz Iz)
  have hW0 := hW
  obtain ⟨⟨hSP, hsz, hpe⟩, hTx, hSt, hHi, hSl⟩ := hW
  have oSt : oST G (a + 37) := hSP.2.2.2.2.1.2
  obtain ⟨tg9, ⟨f0, oTx⟩, ⟨f1, oPt⟩, ⟨f2, oRd⟩, ⟨f3, -⟩, ⟨f4, oDr⟩, ⟨f5, oHi⟩, ⟨f6, gSl, lSl, ⟨rq0, oS0⟩, ⟨rq1, oS1⟩⟩, ⟨f7, gFi, lFi⟩, ⟨f8, oSe⟩, ⟨f9, oTr⟩, ⟨f10, oBp⟩⟩ := hSP
  have tg0 : mx_tg G (a + 1) = 17 := oTx.1
  have tg1 : mx_tg G (a + 3) = 12 := oPt.1
  have tg2 : mx_tg G (a + 8) = 13 := oRd.1
  have tg3 : mx_tg G (a + 37) = 16 := oSt.1
  have tg4 : mx_tg G (a + 42) = 16 := oDr.1
  have tg5 : mx_tg G (a + 47) = 11 := oHi.1
  have tg6 : mx_tg G (a + 131) = 15 := oSe.1
  have tg7 : mx_tg G (a + 136) = 15 := oTr.1
  have tg8 : mx_tg G (a + 141) = 10 := oBp.1
  obtain ⟨rT, tT, lT⟩ : mx_rf G (a + 1) 0 = a + 2 ∧ mx_tg G (a + 2) = 2 ∧ mx_ln G (a + 2) = 110 := oTx.2
  have oSt0 : oST G (a + 37) := oSt
  obtain ⟨-, ⟨rF, tF, lF⟩, ⟨rK, tK, lK⟩, ⟨rO, tO, lO⟩, ⟨rC, tC, lC⟩⟩ : mx_tg G (a + 37) = 16 ∧ (mx_rf G (a + 37) 2 = a + 38 ∧ mx_tg G (a + 38) = 1 ∧ mx_ln G (a + 38) = 25) ∧ (mx_rf G (a + 37) 3 = a + 39 ∧ mx_tg G (a + 39) = 1 ∧ mx_ln G (a + 39) = 25) ∧ (mx_rf G (a + 37) 4 = a + 40 ∧ mx_tg G (a + 40) = 1 ∧ mx_ln G (a + 40) = 25) ∧ (mx_rf G (a + 37) 5 = a + 41 ∧ mx_tg G (a + 41) = 1 ∧ mx_ln G (a + 41) = 25) := oSt
  have hSv : stN I (a + 37) (zG z) := hSt.1
  obtain ⟨⟨hP8, hN25, hvb⟩, hs0, hs1, hsF, hsK, hsT, hsC⟩ : stN I (a + 37) (zG z) := hSt.1
  have hN24 : gN (zG z) ≤ 24 := hSt.2.1.1
  have hTx0 := hTx
  obtain ⟨hn110, ht1, htc, htb⟩ : txN I (a + 1) (zN z) (zT z) := hTx
  obtain ⟨pt, hpt⟩ : ∃ pt, mx_rf G (a + 37) 6 = pt := ⟨_, rfl⟩
  have he0 : env G I (a + 37) pt (zG z) (vA (zX z)) := by rw [← hpt]; exact hW0.env
  have hpd : pt = a + 3 ∨ a + 146 ≤ pt := by rw [← hpt]; exact hW0.2.2.1.2.2.1
  have hpd5 : pt + 5 ≤ mx_sz G := by rw [← hpt]; exact hW0.2.2.1.2.2.2.1
  have tgp : mx_tg G pt = 12 := he0.2.1.1
  obtain ⟨rch, tch, lch⟩ : mx_rf G pt 0 = pt + 1 ∧ mx_tg G (pt + 1) = 2 ∧ mx_ln G (pt + 1) = 40 := he0.2.1.2.1
  have hpn : ptN I pt (vA (zX z)) := he0.2.2.2.2
  have hwfp : wfP (vA (zX z)) := hpn.1
  have hwfg : wfG (zG z) := he0.2.2.2.1.1
  have hn40 : (zX z).2.1 ≤ 40 := hSt.2.1.2.1
  have hpz : I pt 1 = nI (zX z).2.1 := by
    rw [hpn.2.1, show pSz (vA (zX z)) = min (zX z).2.1 40 from (rdF_sz _ _).1, Nat.min_eq_left hn40]
  have hpl : I pt 2 = nI (pL (vA (zX z))) := hpn.2.2.1
  have hpc : ∀ i, i < (zX z).2.1 → I (pt + 1) i = nI ((zX z).2.2 i) := fun i hi => by
    have h := hpn.2.2.2.2.1 i (by rw [show pSz (vA (zX z)) = min (zX z).2.1 40 from (rdF_sz _ _).1, Nat.min_eq_left hn40]; exact hi)
    rw [h, show pCh (vA (zX z)) = (zX z).2.2 from (rdF_sz _ _).2]
  have hpc8 : ∀ i, i < (zX z).2.1 → (zX z).2.2 i < 256 := hSt.2.1.2.2.2
  have J27 : ∀ (_ : Unit), (0 ≤ p.toInt ∧ p.toInt < (gP (zG z) : Int)) → mx_V mX9_follow mx_S0 8 2 12 27 [some (.ref a), some (.int p), some (.int n), some (.long row), none, none, none, none, none, none, none] [.int (mx_b (decide (1 ≤ n.toInt ∧ n.toInt ≤ 5)))] G I (fun rv Gz Iz => fl_follow z p n row = 0 ∧ rv = some (.int (an_follow z p.toInt.toNat n.toInt.toNat row.toInt.toNat)) ∧ cP G I a z Gz Iz) (fun E Gz Iz => (fl_follow z p n row) ≠ 0 ∧ E = exN (fl_follow z p n row) ∧ cP G I a z Gz Iz) := by
    intro _ k1
    refine mx_iconstN 2 dX9_follow_27 (by decide) ?_
    refine mx_callS (As := [.int (mx_b (decide (1 ≤ n.toInt ∧ n.toInt ≤ 5))), .int (nI 2)]) (rest := []) (b1 := 1) (b2 := 6) dX9_follow_28 (ct_require G I (1 ≤ n.toInt ∧ n.toInt ≤ 5) 2 (by decide)) km_X9_require rfl k_338 k_339 rfl rfl (Nat.le_of_ble_eq_true rfl) (by decide) (fun E G9 I9 h9 => mx_xo rfl (by have hf : fl_follow z p n row = 2 := (by unfold fl_follow; rw [if_neg (fun q => q k1), if_pos h9.1]); show (fl_follow z p n row) ≠ 0 ∧ E = exN (fl_follow z p n row) ∧ cP G I a z G9 I9; rw [hf]; exact ⟨by decide, hW0.id.thw h9.2.2⟩)) (fun r1 G3 I2 h4 => ?_)
    obtain ⟨e0, e1, e2, e3⟩ := h4
    have e2 := e2.symm
    subst e1; subst e2; subst e3
    have k2 : 1 ≤ n.toInt ∧ n.toInt ≤ 5 := e0.resolve_right (by decide)
    clear e0
    have hpne : p = nI p.toInt.toNat := (mx_nn (k1.1)).symm
    have hpnb : p.toInt.toNat < gP (zG z) := tn_lt k1
    have hpn31 : p.toInt.toNat < 2 ^ 31 := tn31 _
    generalize p.toInt.toNat = pn at hpne hpnb hpn31 ⊢
    subst hpne
    have hnne : n = nI n.toInt.toNat := (mx_nn (by omega)).symm
    have hnnb : 1 ≤ n.toInt.toNat ∧ n.toInt.toNat ≤ 5 := by omega
    have hnn31 : n.toInt.toNat < 2 ^ 31 := tn31 _
    generalize n.toInt.toNat = nn at hnne hnnb hnn31 ⊢
    subst hnne
    have hpw := p1000 hnnb
    have J54 : ∀ (_ : Unit), mx_V mX9_follow mx_S0 8 1 6 54 [some (.ref a), some (.int (nI pn)), some (.int (nI nn)), some (.long row), none, none, none, none, none, none, none] [.int (mx_b (decide (0 ≤ row.toInt ∧ row.toInt < ((1000 ^ nn : Nat) : Int))))] G I (fun rv Gz Iz => fl_follow z (nI pn) (nI nn) row = 0 ∧ rv = some (.int (an_follow z pn nn row.toInt.toNat)) ∧ cP G I a z Gz Iz) (fun E Gz Iz => (fl_follow z (nI pn) (nI nn) row) ≠ 0 ∧ E = exN (fl_follow z (nI pn) (nI nn) row) ∧ cP G I a z Gz Iz) := by
      intro _ 
      refine mx_iconstN 2 dX9_follow_54 (by decide) ?_
      refine mx_callS (As := [.int (mx_b (decide (0 ≤ row.toInt ∧ row.toInt < ((1000 ^ nn : Nat) : Int)))), .int (nI 2)]) (rest := []) (b1 := 1) (b2 := 6) dX9_follow_55 (ct_require G I (0 ≤ row.toInt ∧ row.toInt < ((1000 ^ nn : Nat) : Int)) 2 (by decide)) km_X9_require rfl k_338 k_339 rfl rfl (Nat.le_of_ble_eq_true rfl) (by decide) (fun E G9 I9 h9 => mx_xo rfl (by have hf : fl_follow z (nI pn) (nI nn) row = 2 := (by unfold fl_follow; rw [if_neg (fun q => q k1), if_neg (fun q => q k2), if_pos (by rw [nI_tt hnn31]; exact h9.1)]); show (fl_follow z (nI pn) (nI nn) row) ≠ 0 ∧ E = exN (fl_follow z (nI pn) (nI nn) row) ∧ cP G I a z G9 I9; rw [hf]; exact ⟨by decide, hW0.id.thw h9.2.2⟩)) (fun r5 G7 I6 h8 => ?_)
      obtain ⟨e0, e1, e2, e3⟩ := h8
      have e2 := e2.symm
      subst e1; subst e2; subst e3
      have k9 : 0 ≤ row.toInt ∧ row.toInt < ((1000 ^ nn : Nat) : Int) := e0.resolve_right (by decide)
      clear e0
      have hre : row = lN row.toInt.toNat := lN_nn (k9.1)
      have hrb : row.toInt.toNat < 1000 ^ nn := tn_lt k9
      generalize row.toInt.toNat = r at hre hrb ⊢
      subst hre
      have hr63 : r < 2 ^ 63 := Nat.lt_trans hrb hpw
      have hle : ∀ i, r / 1000 ^ i < 2 ^ 63 := fun i => Nat.lt_of_le_of_lt (Nat.div_le_self _ _) hr63
      have hf0 : fl_follow z (nI pn) (nI nn) (lN r) = 0 := by
        unfold fl_follow
        rw [if_neg (fun q => q k1), if_neg (fun q => q k2), if_neg (fun q => q (by rw [nI_tt hnn31]; exact k9))]
      have L67 : ∀ (fq : Nat) (i here ps : Nat), nn + 1 - i < fq → (1 ≤ i) → (i ≤ nn + 1) → (here < 8) → (ps < 2 ^ 21) → (flF (zG z) (vA (zX z)) r nn nn 1 pn 1 = flF (zG z) (vA (zX z)) r nn (nn + 1 - i) i here ps) → mx_V mX9_follow mx_S0 8 0 0 67 [some (.ref a), some (.int (nI pn)), some (.int (nI nn)), some (.long (lN r)), none, some (.int (nI here)), some (.int (nI ps)), some (.int (nI i)), none, none, none] [] G I (fun rv Gz Iz => fl_follow z (nI pn) (nI nn) (lN r) = 0 ∧ rv = some (.int (an_follow z pn nn r)) ∧ cP G I a z Gz Iz) (fun E Gz Iz => (fl_follow z (nI pn) (nI nn) (lN r)) ≠ 0 ∧ E = exN (fl_follow z (nI pn) (nI nn) (lN r)) ∧ cP G I a z Gz Iz) := by
        intro fq
        induction fq with
        | zero => intro i here ps hfu; exact absurd hfu (Nat.not_lt_zero _)
        | succ fq ih =>
          intro i here ps hfu hi1 hi hh hps hx
          refine mx_iload (i := 7) (hl := rfl) (hd := dX9_follow_67) ?_
          refine mx_iload_n (i := 2) (hi := rfl) (hl := rfl) (hd := dX9_follow_69) ?_
          refine mx_cmpN_gt 193 dX9_follow_70 (by decide) (by omega) (by omega) (fun c70 => ?_) (fun c70 => ?_)
          · skip
            refine mx_aload_n (i := 0) (hi := rfl) (hl := rfl) (hd := dX9_follow_193) ?_
            refine mx_getR (ci := 9) (k := 3) (r := (a + 37)) dX9_follow_194 k_299 (by decide) rfl (by assumption) (by assumption) (by omega) ?_
            refine mx_getR (ci := 6) (k := 6) (r := pt) dX9_follow_197 k_193 (by decide) rfl (by assumption) (by assumption) (by omega) ?_
            refine mx_iload (i := 6) (hl := rfl) (hd := dX9_follow_200) ?_
            refine mx_callVp (ci := 2) (As := [.int (nI ps)]) (rest := []) dX9_follow_202 (ct_accepts G I pt _ he0.2.1 hpn ps hps) km_X2_accepts rfl k_710 k_563 k_564 (by assumption) rfl rfl (Nat.le_of_ble_eq_true rfl) (by decide) ?_
            refine mx_ifB_eq 213 dX9_follow_205 (by decide) (fun c205 => ?_) (fun c205 => ?_)
            · skip
              refine mx_iload_n (i := 2) (hi := rfl) (hl := rfl) (hd := dX9_follow_213) ?_
              refine mx_iconstN 1 dX9_follow_214 (by decide) ?_
              refine mx_iaddN dX9_follow_215 ?_
              exact mx_iret dX9_follow_216 rfl rfl (⟨hf0, by unfold an_follow; rw [hx, show nn + 1 - i = 0 by omega, flF, if_neg c205], hW0.id⟩)
            · skip
              refine mx_bipush (v := (-9)) (by decide) dX9_follow_208 ?_
              refine mx_goto (tgt := 216) dX9_follow_210 (by decide) ?_
              exact mx_iret dX9_follow_216 rfl rfl (⟨hf0, by unfold an_follow; rw [hx, show nn + 1 - i = 0 by omega, flF, if_pos c205], hW0.id⟩)
          · skip
            refine mx_lload_n (i := 3) (hi := rfl) (hl := rfl) (hd := dX9_follow_73) ?_
            refine mx_iconstN 3 dX9_follow_74 (by decide) ?_
            refine mx_iload_n (i := 2) (hi := rfl) (hl := rfl) (hd := dX9_follow_75) ?_
            refine mx_iload (i := 7) (hl := rfl) (hd := dX9_follow_76) ?_
            refine mx_isubN dX9_follow_78 (by omega) ?_
            refine mx_imulN dX9_follow_79 ?_
            refine mx_callSp (As := [.long (lN r), .int (nI (3 * (nn - i)))]) (rest := []) dX9_follow_80 (ct_without G I r (3 * (nn - i)) hr63 (by omega)) km_X9_without rfl k_444 k_445 rfl rfl (Nat.le_of_ble_eq_true rfl) (by decide) ?_
            refine mx_topl (y := lN (r / 1000 ^ (nn - i))) (by rw [p10_3]) ?_
            refine mx_ldc2 (v := (1000)) k_985 dX9_follow_83 ?_
            refine mx_topl (y := lN 1000) (rfl) ?_
            refine mx_lrem (by decide) dX9_follow_86 ?_
            refine mx_topl (y := lN (r / 1000 ^ (nn - i) % 1000)) (pk_lRem (hle _) (by decide) (by decide)) ?_
            refine mx_l2i (hv := rfl) (hd := dX9_follow_87) ?_
            refine mx_top (y := nI (r / 1000 ^ (nn - i) % 1000)) (lN_i _) ?_
            have hgo9 : (r / 1000 ^ (nn - i) % 1000) < 1000 := Nat.mod_lt _ (by decide)
            have hst := flF_g (v := zG z) (A := vA (zX z)) (f := nn - i) (here := here) (ps := ps) (rfl : (r / 1000 ^ (nn - i) % 1000) = (r / 1000 ^ (nn - i) % 1000))
            rw [show nn - i + 1 = nn + 1 - i by omega] at hst
            generalize (r / 1000 ^ (nn - i) % 1000) = go at hgo9 hst ⊢
            refine mx_istoreE (i := 8) (ls' := [some (.ref a), some (.int (nI pn)), some (.int (nI nn)), some (.long (lN r)), none, some (.int (nI here)), some (.int (nI ps)), some (.int (nI i)), some (.int (nI go)), none, none]) (hd := dX9_follow_88) (hn := by decide) (hok := rfl) (hls := rfl) ?_
            refine mx_iload (i := 8) (hl := rfl) (hd := dX9_follow_90) ?_
            refine mx_bipushN 10 dX9_follow_92 (by decide) ?_
            refine mx_idivN dX9_follow_94 (by omega) (by decide) ?_
            refine mx_istoreE (i := 9) (ls' := [some (.ref a), some (.int (nI pn)), some (.int (nI nn)), some (.long (lN r)), none, some (.int (nI here)), some (.int (nI ps)), some (.int (nI i)), some (.int (nI go)), some (.int (nI (go / 10))), none]) (hd := dX9_follow_95) (hn := by decide) (hok := rfl) (hls := rfl) ?_
            refine mx_iload (i := 8) (hl := rfl) (hd := dX9_follow_97) ?_
            refine mx_bipushN 10 dX9_follow_99 (by decide) ?_
            refine mx_iremN dX9_follow_101 (by omega) (by decide) ?_
            refine mx_istoreE (i := 10) (ls' := [some (.ref a), some (.int (nI pn)), some (.int (nI nn)), some (.long (lN r)), none, some (.int (nI here)), some (.int (nI ps)), some (.int (nI i)), some (.int (nI go)), some (.int (nI (go / 10))), some (.int (nI (go % 10)))]) (hd := dX9_follow_102) (hn := by decide) (hok := rfl) (hls := rfl) ?_
            refine mx_aload_n (i := 0) (hi := rfl) (hl := rfl) (hd := dX9_follow_104) ?_
            refine mx_getR (ci := 9) (k := 3) (r := (a + 37)) dX9_follow_105 k_299 (by decide) rfl (by assumption) (by assumption) (by omega) ?_
            refine mx_iload (i := 9) (hl := rfl) (hd := dX9_follow_108) ?_
            refine mx_callVp (ci := 6) (As := [.int (nI (go / 10))]) (rest := []) dX9_follow_110 (ct_hasStepN G I (a + 37) _ oSt0 hSv (go / 10) (by omega)) km_X6_hasStep rfl k_491 k_492 k_493 (by assumption) rfl rfl (Nat.le_of_ble_eq_true rfl) (by decide) ?_
            refine mx_ifB_eq 138 dX9_follow_113 (by decide) (fun c113 => ?_) (fun c113 => ?_)
            · skip
              refine mx_iload (i := 7) (hl := rfl) (hd := dX9_follow_138) ?_
              exact mx_iret dX9_follow_140 rfl rfl (⟨hf0, by unfold an_follow; rw [hx, hst, if_neg (by first | exact fun z9 => c113 z9.1 | exact fun z9 => absurd z9.2.1 (by omega) | exact fun z9 => c135 z9.2.2)], hW0.id⟩)
            · skip
              refine mx_iload (i := 10) (hl := rfl) (hd := dX9_follow_116) ?_
              refine mx_iconstN 1 dX9_follow_118 (by decide) ?_
              refine mx_cmpN_gt 138 dX9_follow_119 (by decide) (by omega) (by omega) (fun c119 => ?_) (fun c119 => ?_)
              · skip
                refine mx_iload (i := 7) (hl := rfl) (hd := dX9_follow_138) ?_
                exact mx_iret dX9_follow_140 rfl rfl (⟨hf0, by unfold an_follow; rw [hx, hst, if_neg (by first | exact fun z9 => c113 z9.1 | exact fun z9 => absurd z9.2.1 (by omega) | exact fun z9 => c135 z9.2.2)], hW0.id⟩)
              · skip
                refine mx_aload_n (i := 0) (hi := rfl) (hl := rfl) (hd := dX9_follow_122) ?_
                refine mx_getR (ci := 9) (k := 3) (r := (a + 37)) dX9_follow_123 k_299 (by decide) rfl (by assumption) (by assumption) (by omega) ?_
                refine mx_iload (i := 9) (hl := rfl) (hd := dX9_follow_126) ?_
                refine mx_iload (i := 10) (hl := rfl) (hd := dX9_follow_128) ?_
                refine mx_callVp (ci := 6) (As := [.int (nI (go / 10)), .int (nI (go % 10))]) (rest := []) dX9_follow_130 (ct_beginOf G I (a + 37) _ oSt0 hSv (go / 10) (go % 10) c113 (by omega)) km_X6_beginOf rfl k_922 k_899 k_900 (by assumption) rfl rfl (Nat.le_of_ble_eq_true rfl) (by decide) ?_
                refine mx_iload (i := 5) (hl := rfl) (hd := dX9_follow_133) ?_
                refine mx_cmpN_eq 141 dX9_follow_135 (by decide) (gx31 (hvb _ c113).1 (hvb _ c113).2.2.1) (by omega) (fun c135 => ?_) (fun c135 => ?_)
                · skip
                  refine mx_aload_n (i := 0) (hi := rfl) (hl := rfl) (hd := dX9_follow_141) ?_
                  refine mx_getR (ci := 9) (k := 3) (r := (a + 37)) dX9_follow_142 k_299 (by decide) rfl (by assumption) (by assumption) (by omega) ?_
                  refine mx_aload_n (i := 0) (hi := rfl) (hl := rfl) (hd := dX9_follow_145) ?_
                  refine mx_getR (ci := 9) (k := 3) (r := (a + 37)) dX9_follow_146 k_299 (by decide) rfl (by assumption) (by assumption) (by omega) ?_
                  refine mx_getR (ci := 6) (k := 6) (r := pt) dX9_follow_149 k_193 (by decide) rfl (by assumption) (by assumption) (by omega) ?_
                  refine mx_iload (i := 6) (hl := rfl) (hd := dX9_follow_152) ?_
                  refine mx_callVp (ci := 2) (As := [.int (nI ps)]) (rest := [.ref (a + 37)]) dX9_follow_154 (ct_following G I pt _ he0.2.1 hpn ps hps) km_X2_following rfl k_921 k_567 k_568 (by assumption) rfl rfl (Nat.le_of_ble_eq_true rfl) (by decide) ?_
                  refine mx_iload (i := 9) (hl := rfl) (hd := dX9_follow_157) ?_
                  refine mx_iload (i := 10) (hl := rfl) (hd := dX9_follow_159) ?_
                  refine mx_callVp (ci := 6) (As := [.int (nI (pFol (vA (zX z)) ps)), .int (nI (go / 10)), .int (nI (go % 10))]) (rest := []) dX9_follow_161 (ct_enter G I (a + 37) pt _ _ he0 (pFol (vA (zX z)) ps) (go / 10) (go % 10) c113 (by omega)) km_X6_enter rfl k_923 k_575 k_576 (by assumption) rfl rfl (Nat.le_of_ble_eq_true rfl) (by decide) ?_
                  refine mx_istoreE (i := 6) (ls' := [some (.ref a), some (.int (nI pn)), some (.int (nI nn)), some (.long (lN r)), none, some (.int (nI here)), some (.int (nI (pFol (vA (zX z)) ps &&& pEn (vA (zX z)) (go % 10) (gK (zG z) (go / 10))))), some (.int (nI i)), some (.int (nI go)), some (.int (nI (go / 10))), some (.int (nI (go % 10)))]) (hd := dX9_follow_164) (hn := by decide) (hok := rfl) (hls := rfl) ?_
                  refine mx_iload (i := 6) (hl := rfl) (hd := dX9_follow_166) ?_
                  refine mx_ifN_ne 174 dX9_follow_168 (by decide) (Nat.lt_trans (mx_and_lt (pFol_lt hwfp ps)) (by decide)) (fun c168 => ?_) (fun c168 => ?_)
                  · skip
                    refine mx_aload_n (i := 0) (hi := rfl) (hl := rfl) (hd := dX9_follow_174) ?_
                    refine mx_getR (ci := 9) (k := 3) (r := (a + 37)) dX9_follow_175 k_299 (by decide) rfl (by assumption) (by assumption) (by omega) ?_
                    refine mx_iload (i := 9) (hl := rfl) (hd := dX9_follow_178) ?_
                    refine mx_iload (i := 10) (hl := rfl) (hd := dX9_follow_180) ?_
                    refine mx_callVp (ci := 6) (As := [.int (nI (go / 10)), .int (nI (go % 10))]) (rest := []) dX9_follow_182 (ct_endOf G I (a + 37) _ oSt0 hSv (go / 10) (go % 10) c113 (by omega)) km_X6_endOf rfl k_924 k_903 k_904 (by assumption) rfl rfl (Nat.le_of_ble_eq_true rfl) (by decide) ?_
                    refine mx_istoreE (i := 5) (ls' := [some (.ref a), some (.int (nI pn)), some (.int (nI nn)), some (.long (lN r)), none, some (.int (nI (if go % 10 = 0 then gT (zG z) (go / 10) else gF (zG z) (go / 10)))), some (.int (nI (pFol (vA (zX z)) ps &&& pEn (vA (zX z)) (go % 10) (gK (zG z) (go / 10))))), some (.int (nI i)), some (.int (nI go)), some (.int (nI (go / 10))), some (.int (nI (go % 10)))]) (hd := dX9_follow_185) (hn := by decide) (hok := rfl) (hls := rfl) ?_
                    refine mx_iincE (i := 7) (ls' := [some (.ref a), some (.int (nI pn)), some (.int (nI nn)), some (.long (lN r)), none, some (.int (nI (if go % 10 = 0 then gT (zG z) (go / 10) else gF (zG z) (go / 10)))), some (.int (nI (pFol (vA (zX z)) ps &&& pEn (vA (zX z)) (go % 10) (gK (zG z) (go / 10))))), some (.int (nI (i + 1))), some (.int (nI go)), some (.int (nI (go / 10))), some (.int (nI (go % 10)))]) 1 dX9_follow_187 rfl (by decide) (by decide) rfl rfl ?_
                    refine mx_goto (tgt := 67) dX9_follow_190 (by decide) ?_
                    refine mx_leS (ls' := [some (.ref a), some (.int (nI pn)), some (.int (nI nn)), some (.long (lN r)), none, some (.int (nI (if go % 10 = 0 then gT (zG z) (go / 10) else gF (zG z) (go / 10)))), some (.int (nI (pFol (vA (zX z)) ps &&& pEn (vA (zX z)) (go % 10) (gK (zG z) (go / 10))))), some (.int (nI (i + 1))), none, none, none]) ⟨rfl, rfl, rfl, rfl, rfl, rfl, rfl, trivial⟩ ?_
                    exact ih (i + 1) _ _ (by omega) (by omega) (by omega) (gx8 (hvb _ c113).2.2.1 (hvb _ c113).1) (mx_and_lt (pFol_lt hwfp ps)) (by rw [hx, hst, if_pos ⟨c113, by omega, c135⟩, if_neg c168, show nn + 1 - (i + 1) = nn - i by omega])
                  · skip
                    refine mx_iload (i := 7) (hl := rfl) (hd := dX9_follow_171) ?_
                    exact mx_iret dX9_follow_173 rfl rfl (⟨hf0, by unfold an_follow; rw [hx, hst, if_pos ⟨c113, by omega, c135⟩, if_pos c168], hW0.id⟩)
                · skip
                  refine mx_iload (i := 7) (hl := rfl) (hd := dX9_follow_138) ?_
                  exact mx_iret dX9_follow_140 rfl rfl (⟨hf0, by unfold an_follow; rw [hx, hst, if_neg (by first | exact fun z9 => c113 z9.1 | exact fun z9 => absurd z9.2.1 (by omega) | exact fun z9 => c135 z9.2.2)], hW0.id⟩)
      refine mx_iload_n (i := 1) (hi := rfl) (hl := rfl) (hd := dX9_follow_58) ?_
      refine mx_istoreE (i := 5) (ls' := [some (.ref a), some (.int (nI pn)), some (.int (nI nn)), some (.long (lN r)), none, some (.int (nI pn)), none, none, none, none, none]) (hd := dX9_follow_59) (hn := by decide) (hok := rfl) (hls := rfl) ?_
      refine mx_iconstN 1 dX9_follow_61 (by decide) ?_
      refine mx_istoreE (i := 6) (ls' := [some (.ref a), some (.int (nI pn)), some (.int (nI nn)), some (.long (lN r)), none, some (.int (nI pn)), some (.int (nI 1)), none, none, none, none]) (hd := dX9_follow_62) (hn := by decide) (hok := rfl) (hls := rfl) ?_
      refine mx_iconstN 1 dX9_follow_64 (by decide) ?_
      refine mx_istoreE (i := 7) (ls' := [some (.ref a), some (.int (nI pn)), some (.int (nI nn)), some (.long (lN r)), none, some (.int (nI pn)), some (.int (nI 1)), some (.int (nI 1)), none, none, none]) (hd := dX9_follow_65) (hn := by decide) (hok := rfl) (hls := rfl) ?_
      exact L67 _ 1 pn 1 (Nat.lt_succ_self _) (Nat.le_refl _) (by omega) (by omega) (by decide) (by rw [show nn + 1 - 1 = nn by omega])
    refine mx_lload_n (i := 3) (hi := rfl) (hl := rfl) (hd := dX9_follow_31) ?_
    refine mx_lconst (v := 0) (by decide) dX9_follow_32 ?_
    refine mx_lcmp dX9_follow_33 ?_
    refine mx_ifR_lt 53 dX9_follow_34 (by decide) (fun c34 => ?_) (fun c34 => ?_)
    · skip
      have d34 := lgc_lt0.mp c34
      refine mx_iconstN 0 dX9_follow_53 (by decide) ?_
      refine mx_top (y := mx_b (decide (0 ≤ row.toInt ∧ row.toInt < ((1000 ^ nn : Nat) : Int)))) (mx_bF (by first | exact fun q9 => absurd q9.1 (by omega) | exact d46)) ?_
      exact J54 () 
    · skip
      have d34 : ¬ row.toInt < 0 := fun q => c34 (lgc_lt0.mpr q)
      refine mx_lload_n (i := 3) (hi := rfl) (hl := rfl) (hd := dX9_follow_37) ?_
      refine mx_topl (y := lN row.toInt.toNat) (lN_row d34) ?_
      refine mx_iconstN 3 dX9_follow_38 (by decide) ?_
      refine mx_iload_n (i := 2) (hi := rfl) (hl := rfl) (hd := dX9_follow_39) ?_
      refine mx_imulN dX9_follow_40 ?_
      refine mx_callSp (As := [.long (lN row.toInt.toNat), .int (nI (3 * nn))]) (rest := []) dX9_follow_41 (ct_without G I row.toInt.toNat (3 * nn) (lN_63 row) (by omega)) km_X9_without rfl k_444 k_445 rfl rfl (Nat.le_of_ble_eq_true rfl) (by decide) ?_
      refine mx_topl (y := lN (row.toInt.toNat / 1000 ^ nn)) (by rw [p10_3]) ?_
      refine mx_lconst (v := 0) (by decide) dX9_follow_44 ?_
      refine mx_lcmp dX9_follow_45 ?_
      refine mx_if_ne (tgt := 53) dX9_follow_46 (by decide) (fun c46 => ?_) (fun c46 => ?_)
      · skip
        have d46 : ¬ (0 ≤ row.toInt ∧ row.toInt < ((1000 ^ nn : Nat) : Int)) := fun q9 => c46 ((wo_iff (Nat.pow_pos (by decide : 0 < 1000)) d34).mpr q9)
        refine mx_iconstN 0 dX9_follow_53 (by decide) ?_
        refine mx_top (y := mx_b (decide (0 ≤ row.toInt ∧ row.toInt < ((1000 ^ nn : Nat) : Int)))) (mx_bF (by first | exact fun q9 => absurd q9.1 (by omega) | exact d46)) ?_
        exact J54 () 
      · skip
        have d46 : 0 ≤ row.toInt ∧ row.toInt < ((1000 ^ nn : Nat) : Int) := (wo_iff (Nat.pow_pos (by decide : 0 < 1000)) d34).mp c46
        refine mx_iconstN 1 dX9_follow_49 (by decide) ?_
        refine mx_goto (tgt := 54) dX9_follow_50 (by decide) ?_
        refine mx_top (y := mx_b (decide (0 ≤ row.toInt ∧ row.toInt < ((1000 ^ nn : Nat) : Int)))) (mx_bT (d46)) ?_
        exact J54 () 
  refine mx_aload_n (i := 0) (hi := rfl) (hl := rfl) (hd := dX9_follow_0) ?_
  refine mx_getR (ci := 9) (k := 3) (r := (a + 37)) dX9_follow_1 k_299 (by decide) rfl (by assumption) (by assumption) (by omega) ?_
  refine mx_iload_n (i := 1) (hi := rfl) (hl := rfl) (hd := dX9_follow_4) ?_
  refine mx_callVp (ci := 6) (As := [.int p]) (rest := []) dX9_follow_5 (ct_hasPerson G I (a + 37) _ oSt0 hSv p) km_X6_hasPerson rfl k_615 k_470 k_471 (by assumption) rfl rfl (Nat.le_of_ble_eq_true rfl) (by decide) ?_
  refine mx_iconstN 1 dX9_follow_8 (by decide) ?_
  refine mx_callS (As := [.int (mx_b (decide (0 ≤ p.toInt ∧ p.toInt < (gP (zG z) : Int)))), .int (nI 1)]) (rest := []) (b1 := 1) (b2 := 6) dX9_follow_9 (ct_require G I (0 ≤ p.toInt ∧ p.toInt < (gP (zG z) : Int)) 1 (by decide)) km_X9_require rfl k_338 k_339 rfl rfl (Nat.le_of_ble_eq_true rfl) (by decide) (fun E G9 I9 h9 => mx_xo rfl (by have hf : fl_follow z p n row = 1 := (by unfold fl_follow; rw [if_pos h9.1]); show (fl_follow z p n row) ≠ 0 ∧ E = exN (fl_follow z p n row) ∧ cP G I a z G9 I9; rw [hf]; exact ⟨by decide, hW0.id.thw h9.2.2⟩)) (fun r9 G11 I10 h12 => ?_)
  obtain ⟨e0, e1, e2, e3⟩ := h12
  have e2 := e2.symm
  subst e1; subst e2; subst e3
  have k1 : 0 ≤ p.toInt ∧ p.toInt < (gP (zG z) : Int) := e0.resolve_right (by decide)
  clear e0
  refine mx_iload_n (i := 2) (hi := rfl) (hl := rfl) (hd := dX9_follow_12) ?_
  refine mx_iconstN 1 dX9_follow_13 (by decide) ?_
  refine mx_cmpRN_lt 26 dX9_follow_14 (by decide) (by omega) (fun c14 => ?_) (fun c14 => ?_)
  · skip
    refine mx_iconstN 0 dX9_follow_26 (by decide) ?_
    refine mx_top (y := mx_b (decide (1 ≤ n.toInt ∧ n.toInt ≤ 5))) (mx_bF (by omega)) ?_
    exact J27 () k1
  · skip
    refine mx_iload_n (i := 2) (hi := rfl) (hl := rfl) (hd := dX9_follow_17) ?_
    refine mx_iconstN 5 dX9_follow_18 (by decide) ?_
    refine mx_cmpRN_gt 26 dX9_follow_19 (by decide) (by omega) (fun c19 => ?_) (fun c19 => ?_)
    · skip
      refine mx_iconstN 0 dX9_follow_26 (by decide) ?_
      refine mx_top (y := mx_b (decide (1 ≤ n.toInt ∧ n.toInt ≤ 5))) (mx_bF (by omega)) ?_
      exact J27 () k1
    · skip
      refine mx_iconstN 1 dX9_follow_22 (by decide) ?_
      refine mx_goto (tgt := 27) dX9_follow_23 (by decide) ?_
      refine mx_top (y := mx_b (decide (1 ≤ n.toInt ∧ n.toInt ≤ 5))) (mx_bT (by omega)) ?_
      exact J27 () k1
