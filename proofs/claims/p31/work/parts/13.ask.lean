/-! Math.max, Math.min; the askers of Search.run -/
theorem km_max_X5_49 : Cond.methodLink RX5 49 Lib.Math.max.name ∈ mx_AW := mx_in 652 (by decide +kernel) (by decide +kernel)
theorem kms_max : Cond.static Lib.Math.max.name ∈ mx_AW := mx_in 653 (by decide +kernel) (by decide +kernel)
theorem kmc_max : Cond.code Lib.Math.max.name Lib.Math.max.code 2 (some .int) ∈ mx_AW := mx_in 654 (by decide +kernel) (by decide +kernel)
theorem km_min_X1_31 : Cond.methodLink RX1 31 Lib.Math.min.name ∈ mx_AW := mx_in 767 (by decide +kernel) (by decide +kernel)
theorem kms_min : Cond.static Lib.Math.min.name ∈ mx_AW := mx_in 768 (by decide +kernel) (by decide +kernel)
theorem kmc_min : Cond.code Lib.Math.min.name Lib.Math.min.code 2 (some .int) ∈ mx_AW := mx_in 769 (by decide +kernel) (by decide +kernel)
theorem kmi : Cond.initialized "java/lang/Math" ∈ mx_AW := mx_in 46 (by decide +kernel) (by decide +kernel)
theorem mx_mmax {M : mx_MI} {S : mx_Sc} {d bc bs pc : Nat} {ls : List (Option Value)} {st : List Value} {G : mx_G} {I : mx_I} {Q : Option Value → mx_G → mx_I → Prop} {X : String → mx_G → mx_I → Prop} {idx : Nat} {x y : Int32} (hd : decode (mx_cc M) pc = .ok (.invokestatic idx, 3)) (h1 : Cond.methodLink (mx_own M) idx Lib.Math.max.name ∈ mx_AW) (hst : (st.map fun v => v.category).sum + 13 ≤ 48) (hd1 : 1 ≤ d)
    (kk : mx_V M S d bc bs (pc + 3) ls (.int (if x < y then y else x) :: st) G I Q X) : mx_V M S d bc bs pc ls (.int y :: .int x :: st) G I Q X := by
  intro p l e R s m args below meth c mc ms base D dA hF H locs cells slots lsA hM
  have k1 := kk p l e R s m args below meth c mc ms base D dA hF H locs cells slots lsA hM
  obtain ⟨hx, hb, hml, hrt, hown, hts, hlocks, htab, hini, hfl, hRf, hRl, hmc, hms, hbase, hKK⟩ := hF
  have hb1 := hM.2.2.1
  have hb2 := hM.2.2.2.1
  exact va_mmax hx hb (hml.trans hM.2.2.2.2.1.1.symm) hown (hts _ h1) (hts _ kms_max) (hts _ kmi) (hts _ kmc_max) (by omega) (by omega) (by omega) (by omega) hd k1
theorem mx_mmin {M : mx_MI} {S : mx_Sc} {d bc bs pc : Nat} {ls : List (Option Value)} {st : List Value} {G : mx_G} {I : mx_I} {Q : Option Value → mx_G → mx_I → Prop} {X : String → mx_G → mx_I → Prop} {idx : Nat} {x y : Int32} (hd : decode (mx_cc M) pc = .ok (.invokestatic idx, 3)) (h1 : Cond.methodLink (mx_own M) idx Lib.Math.min.name ∈ mx_AW) (hst : (st.map fun v => v.category).sum + 13 ≤ 48) (hd1 : 1 ≤ d)
    (kk : mx_V M S d bc bs (pc + 3) ls (.int (if y < x then y else x) :: st) G I Q X) : mx_V M S d bc bs pc ls (.int y :: .int x :: st) G I Q X := by
  intro p l e R s m args below meth c mc ms base D dA hF H locs cells slots lsA hM
  have k1 := kk p l e R s m args below meth c mc ms base D dA hF H locs cells slots lsA hM
  obtain ⟨hx, hb, hml, hrt, hown, hts, hlocks, htab, hini, hfl, hRf, hRl, hmc, hms, hbase, hKK⟩ := hF
  have hb1 := hM.2.2.1
  have hb2 := hM.2.2.2.1
  exact va_mmin hx hb (hml.trans hM.2.2.2.2.1.1.symm) hown (hts _ h1) (hts _ kms_min) (hts _ kmi) (hts _ kmc_min) (by omega) (by omega) (by omega) (by omega) hd k1
def omx (a b : Option Nat) : Option Nat := match a, b with
  | none, b => b
  | a, none => a
  | some x, some y => some (if x < y then y else x)
theorem oI_toInt {x : Option Nat} (h : ∀ z, x = some z → z < 2 ^ 31) : (oI x).toInt = match x with
    | none => -9
    | some z => (z : Int) := by
  cases x with
  | none => show (-9 : Int32).toInt = -9; decide
  | some z => exact nI_toInt (h z rfl)
theorem oI_max {a b : Option Nat} (ha : ∀ z, a = some z → z < 2 ^ 31) (hb : ∀ z, b = some z → z < 2 ^ 31) : (if oI a < oI b then oI b else oI a) = oI (omx a b) := by
  have e : (oI a < oI b) = ((oI a).toInt < (oI b).toInt) := by rw [Int32.lt_iff_toInt_lt]
  rw [oI_toInt ha, oI_toInt hb] at e
  cases a with
  | none =>
    cases b with
    | none => rfl
    | some y =>
      rw [if_pos (by rw [e]; show (-9 : Int) < (y : Int); omega)]; rfl
  | some x =>
    cases b with
    | none => rw [if_neg (by rw [e]; show ¬ ((x : Int) < -9); omega)]; rfl
    | some y =>
      show _ = oI (some (if x < y then y else x))
      by_cases c : x < y
      · rw [if_pos (by rw [e]; show (x : Int) < (y : Int); omega), if_pos c]
      · rw [if_neg (by rw [e]; show ¬ ((x : Int) < (y : Int)); omega), if_neg c]
abbrev sCs (v : Gr) (A : Pa) (p : Nat) (qq : Option Nat) (bl lim : Nat) : Nat → Option Nat := (sFin v A p qq bl lim).2.1
theorem sCs_lt {v : Gr} {A : Pa} (hA : wfP A) {p : Nat} {qq : Option Nat} {bl lim : Nat} (hl : lim ≤ 1512) (u z : Nat) (h : sCs v A p qq bl lim u = some z) : z < 2 ^ 31 := by
  have h1 := (sOk.run (bl := bl) (v := v) hA (qq := qq) lim 0 _ (sOk.ini p)).2.1 u z h
  omega
def pfB (cs : Nat → Option Nat) : Nat → Nat
  | 0 => 0
  | q + 1 => pfB cs q ||| (if cs q = none then 0 else 2 ^ q)
def svQ (cs : Nat → Option Nat) : Nat → Nat × Option Nat → Nat × Option Nat
  | 0, x => x
  | q + 1, x => ((svQ cs q x).1 + (if cs q = none then 0 else 1), omx (svQ cs q x).2 (cs q))
def svP (v : Gr) (A : Pa) (bl : Nat) : Nat → Nat × Option Nat
  | 0 => (0, none)
  | p + 1 => svQ (sCs v A p none bl 1512) (gP v) (svP v A bl p)
theorem svQ_le {cs : Nat → Option Nat} {x : Nat × Option Nat} : ∀ n, (svQ cs n x).1 ≤ x.1 + n
  | 0 => Nat.le_refl _
  | n + 1 => by
    have := svQ_le (cs := cs) (x := x) n
    show (svQ cs n x).1 + _ ≤ _
    split <;> omega
theorem omx_lt {a b : Option Nat} {n : Nat} (ha : ∀ z, a = some z → z < n) (hb : ∀ z, b = some z → z < n) : ∀ z, omx a b = some z → z < n := by
  intro z hz
  cases a with
  | none => exact hb z hz
  | some x =>
    cases b with
    | none => exact ha z hz
    | some y =>
      have hz : some (if x < y then y else x) = some z := hz
      have h1 := ha x rfl
      have h2 := hb y rfl
      split at hz <;> (cases hz; omega)
theorem svQ_lt {cs : Nat → Option Nat} {x : Nat × Option Nat} {n : Nat} (hx : ∀ z, x.2 = some z → z < n) (hc : ∀ u z, cs u = some z → z < n) : ∀ q z, (svQ cs q x).2 = some z → z < n
  | 0 => hx
  | q + 1 => omx_lt (svQ_lt hx hc q) (hc q)
theorem svP_lt {v : Gr} {A : Pa} (hA : wfP A) {bl : Nat} : ∀ p z, (svP v A bl p).2 = some z → z < 2 ^ 31
  | 0 => fun z hz => nomatch hz
  | p + 1 => svQ_lt (svP_lt hA p) (fun u z h => sCs_lt hA (Nat.le_refl _) u z h) (gP v)

set_option maxHeartbeats 4000000 in
set_option maxRecDepth 100000 in
theorem ct_fromPerson (G : mx_G) (I : mx_I) (o : Nat) (hs : oSE G o) (q pt : Nat) (v : Gr) (A : Pa) (he : env G I q pt v A) (hd1 : q + 5 ≤ o ∨ o + 5 ≤ q) (hd2 : pt + 5 ≤ o ∨ o + 5 ≤ pt) (p bl : Nat) (hp : p < gP v) (hbl31 : bl < 2 ^ 31) : mx_CTi yX5_fromPerson mX5_fromPerson 4 [.ref o, .ref q, .int (nI p), .int (nI bl)] G I (fun rv I1 => rv = none ∧ seN I1 o bl (sCs v A p none bl 1512) (sFin v A p none bl 1512).2.2.1 (sFin v A p none bl 1512).2.2.2 ∧ mx_fr I I1 o (o + 5) ∧ kp I I1 o) := by
  refine mx_start (k := 0) (by decide) rfl rfl (fun h => nomatch h) (Nat.le_of_ble_eq_true rfl) ?_
  show mx_V mX5_fromPerson mx_S0 4 0 0 0 [some (.ref o), some (.ref q), some (.int (nI p)), some (.int (nI bl))] [] G I (fun rv Gz Iz => (fun rv I1 => rv = none ∧ seN I1 o bl (sCs v A p none bl 1512) (sFin v A p none bl 1512).2.2.1 (sFin v A p none bl 1512).2.2.2 ∧ mx_fr I I1 o (o + 5) ∧ kp I I1 o) rv Iz ∧ Gz = G) (fun _ _ _ => False)
  have hs0 := hs
  obtain ⟨ha0, ⟨ha1, ha2, ha3⟩, ⟨ha4, ha5, ha6⟩, ha7, hwh⟩ := hs
  refine mx_aload_n (i := 0) (hi := rfl) (hl := rfl) (hd := dX5_fromPerson_0) ?_
  refine mx_aload_n (i := 1) (hi := rfl) (hl := rfl) (hd := dX5_fromPerson_1) ?_
  refine mx_iload_n (i := 2) (hi := rfl) (hl := rfl) (hd := dX5_fromPerson_2) ?_
  refine mx_bipush (v := (-9)) (by decide) dX5_fromPerson_3 ?_
  refine mx_iload_n (i := 3) (hi := rfl) (hl := rfl) (hd := dX5_fromPerson_5) ?_
  refine mx_sipushN 1512 dX5_fromPerson_6 (by decide) ?_
  refine mx_callVi (ci := 5) (As := [.ref q, .int (nI p), .int (-9), .int (nI bl), .int (nI 1512)]) (rest := []) dX5_fromPerson_9 (ct_seRun G I o hs0 q pt v A he hd1 hd2 p bl 1512 none hp hbl31 (Nat.le_refl _) (fun z hz => nomatch hz)) km_X5_run rfl k_538 k_540 k_8 (by assumption) rfl rfl (Nat.le_of_ble_eq_true rfl) (by decide) (fun r1 I2 h2 => ?_)
  obtain ⟨e9, ⟨hq1, hq2, hq3, hq4⟩, hq5, hq6⟩ := h2
  subst e9
  exact mx_vret dX5_fromPerson_12 rfl (⟨⟨rfl, ⟨hq1, hq2, hq3, hq4⟩, hq5, hq6⟩, rfl⟩)

set_option maxHeartbeats 4000000 in
set_option maxRecDepth 100000 in
theorem ct_between (G : mx_G) (I : mx_I) (o : Nat) (hs : oSE G o) (q pt : Nat) (v : Gr) (A : Pa) (he : env G I q pt v A) (hd1 : q + 5 ≤ o ∨ o + 5 ≤ q) (hd2 : pt + 5 ≤ o ∨ o + 5 ≤ pt) (p r bl lim : Nat) (hp : p < gP v) (hr : r < gP v) (hbl31 : bl < 2 ^ 31) (hlim : lim ≤ 1512) : mx_CTi yX5_between mX5_between 4 [.ref o, .ref q, .int (nI p), .int (nI r), .int (nI bl), .int (nI lim)] G I (fun rv I1 => rv = some (.int (oI (sCs v A p (some r) bl lim r))) ∧ mx_fr I I1 o (o + 5)) := by
  refine mx_start (k := 0) (by decide) rfl rfl (fun h => nomatch h) (Nat.le_of_ble_eq_true rfl) ?_
  show mx_V mX5_between mx_S0 4 0 0 0 [some (.ref o), some (.ref q), some (.int (nI p)), some (.int (nI r)), some (.int (nI bl)), some (.int (nI lim))] [] G I (fun rv Gz Iz => (fun rv I1 => rv = some (.int (oI (sCs v A p (some r) bl lim r))) ∧ mx_fr I I1 o (o + 5)) rv Iz ∧ Gz = G) (fun _ _ _ => False)
  have hP8 := he.2.2.2.1.1.1
  have hs0 := hs
  obtain ⟨ha0, ⟨ha1, ha2, ha3⟩, ⟨ha4, ha5, ha6⟩, ha7, hwh⟩ := hs
  refine mx_aload_n (i := 0) (hi := rfl) (hl := rfl) (hd := dX5_between_0) ?_
  refine mx_aload_n (i := 1) (hi := rfl) (hl := rfl) (hd := dX5_between_1) ?_
  refine mx_iload_n (i := 2) (hi := rfl) (hl := rfl) (hd := dX5_between_2) ?_
  refine mx_iload_n (i := 3) (hi := rfl) (hl := rfl) (hd := dX5_between_3) ?_
  refine mx_iload (i := 4) (hl := rfl) (hd := dX5_between_4) ?_
  refine mx_iload (i := 5) (hl := rfl) (hd := dX5_between_6) ?_
  refine mx_callVi (ci := 5) (As := [.ref q, .int (nI p), .int (nI r), .int (nI bl), .int (nI lim)]) (rest := []) dX5_between_8 (ct_seRun G I o hs0 q pt v A he hd1 hd2 p bl lim (some r) hp hbl31 hlim (fun z hz => by cases hz; exact hr)) km_X5_run rfl k_538 k_540 k_8 (by assumption) rfl rfl (Nat.le_of_ble_eq_true rfl) (by decide) (fun r1 I2 h2 => ?_)
  obtain ⟨e9, ⟨hq1, hq2, hq3, hq4⟩, hq5, hq6⟩ := h2
  subst e9
  refine mx_aload_n (i := 0) (hi := rfl) (hl := rfl) (hd := dX5_between_11) ?_
  refine mx_getR (ci := 5) (k := 0) (r := (o + 1)) dX5_between_12 k_247 (by decide) rfl (by assumption) (by assumption) (by omega) ?_
  refine mx_iload_n (i := 3) (hi := rfl) (hl := rfl) (hd := dX5_between_15) ?_
  refine mx_ialdV r (oI (sCs v A p (some r) bl lim r) : Int32) dX5_between_16 (by assumption) ⟨rfl, by omega, by omega⟩ (hq2 r (by omega)) ?_
  exact mx_iret dX5_between_17 rfl rfl (⟨⟨rfl, hq5⟩, rfl⟩)

set_option maxHeartbeats 4000000 in
set_option maxRecDepth 100000 in
theorem ct_finds (G : mx_G) (I : mx_I) (o : Nat) (hs : oSE G o) (q pt : Nat) (v : Gr) (A : Pa) (he : env G I q pt v A) (hd1 : q + 5 ≤ o ∨ o + 5 ≤ q) (hd2 : pt + 5 ≤ o ∨ o + 5 ≤ pt) (p r bl : Nat) (hp : p < gP v) (hr : r < gP v) (hbl31 : bl < 2 ^ 31) : mx_CTi yX5_finds mX5_finds 4 [.ref o, .ref q, .int (nI p), .int (nI r), .int (nI bl)] G I (fun rv I1 => rv = some (.int (mx_b (decide (¬ sCs v A p (some r) bl 1512 r = none)))) ∧ mx_fr I I1 o (o + 5)) := by
  refine mx_start (k := 0) (by decide) rfl rfl (fun h => nomatch h) (Nat.le_of_ble_eq_true rfl) ?_
  show mx_V mX5_finds mx_S0 4 0 0 0 [some (.ref o), some (.ref q), some (.int (nI p)), some (.int (nI r)), some (.int (nI bl))] [] G I (fun rv Gz Iz => (fun rv I1 => rv = some (.int (mx_b (decide (¬ sCs v A p (some r) bl 1512 r = none)))) ∧ mx_fr I I1 o (o + 5)) rv Iz ∧ Gz = G) (fun _ _ _ => False)
  have hP8 := he.2.2.2.1.1.1
  have hwp := he.2.2.2.2.1
  have hs0 := hs
  obtain ⟨ha0, ⟨ha1, ha2, ha3⟩, ⟨ha4, ha5, ha6⟩, ha7, hwh⟩ := hs
  refine mx_aload_n (i := 0) (hi := rfl) (hl := rfl) (hd := dX5_finds_0) ?_
  refine mx_aload_n (i := 1) (hi := rfl) (hl := rfl) (hd := dX5_finds_1) ?_
  refine mx_iload_n (i := 2) (hi := rfl) (hl := rfl) (hd := dX5_finds_2) ?_
  refine mx_iload_n (i := 3) (hi := rfl) (hl := rfl) (hd := dX5_finds_3) ?_
  refine mx_iload (i := 4) (hl := rfl) (hd := dX5_finds_4) ?_
  refine mx_sipushN 1512 dX5_finds_6 (by decide) ?_
  refine mx_callVi (ci := 5) (As := [.ref q, .int (nI p), .int (nI r), .int (nI bl), .int (nI 1512)]) (rest := []) dX5_finds_9 (ct_seRun G I o hs0 q pt v A he hd1 hd2 p bl 1512 (some r) hp hbl31 (Nat.le_refl _) (fun z hz => by cases hz; exact hr)) km_X5_run rfl k_538 k_540 k_8 (by assumption) rfl rfl (Nat.le_of_ble_eq_true rfl) (by decide) (fun r1 I2 h2 => ?_)
  obtain ⟨e9, ⟨hq1, hq2, hq3, hq4⟩, hq5, hq6⟩ := h2
  subst e9
  have hoI := oI_iff (x := sCs v A p (some r) bl 1512 r) (fun z hz => sCs_lt hwp (Nat.le_refl _) _ _ hz)
  refine mx_aload_n (i := 0) (hi := rfl) (hl := rfl) (hd := dX5_finds_12) ?_
  refine mx_getR (ci := 5) (k := 0) (r := (o + 1)) dX5_finds_13 k_247 (by decide) rfl (by assumption) (by assumption) (by omega) ?_
  refine mx_iload_n (i := 3) (hi := rfl) (hl := rfl) (hd := dX5_finds_16) ?_
  refine mx_ialdV r (oI (sCs v A p (some r) bl 1512 r) : Int32) dX5_finds_17 (by assumption) ⟨rfl, by omega, by omega⟩ (hq2 r (by omega)) ?_
  refine mx_bipush (v := (-9)) (by decide) dX5_finds_18 ?_
  refine mx_icmp_eq (tgt := 27) dX5_finds_20 (by decide) (fun c20 => ?_) (fun c20 => ?_)
  · skip
    refine mx_iconstN 0 dX5_finds_27 (by decide) ?_
    exact mx_iret dX5_finds_28 rfl (by decide) (⟨⟨congrArg (fun z => some (Value.int z)) (mx_bF (fun z => z (hoI.mp c20))), hq5⟩, rfl⟩)
  · skip
    refine mx_iconstN 1 dX5_finds_23 (by decide) ?_
    refine mx_goto (tgt := 28) dX5_finds_24 (by decide) ?_
    exact mx_iret dX5_finds_28 rfl (by decide) (⟨⟨congrArg (fun z => some (Value.int z)) (mx_bT (fun z => c20 (hoI.mpr z))), hq5⟩, rfl⟩)

set_option maxHeartbeats 4000000 in
set_option maxRecDepth 100000 in
theorem ct_peopleFrom (G : mx_G) (I : mx_I) (o : Nat) (hs : oSE G o) (q pt : Nat) (v : Gr) (A : Pa) (he : env G I q pt v A) (hd1 : q + 5 ≤ o ∨ o + 5 ≤ q) (hd2 : pt + 5 ≤ o ∨ o + 5 ≤ pt) (p : Nat) (hp : p < gP v) : mx_CTi yX5_peopleFrom mX5_peopleFrom 5 [.ref o, .ref q, .int (nI p)] G I (fun rv I1 => rv = some (.int (nI (pfB (sCs v A p none 0 1512) (gP v)))) ∧ mx_fr I I1 o (o + 5)) := by
  refine mx_start (k := 2) (by decide) rfl rfl (fun h => nomatch h) (Nat.le_of_ble_eq_true rfl) ?_
  show mx_V mX5_peopleFrom mx_S0 5 0 0 0 [some (.ref o), some (.ref q), some (.int (nI p)), none, none] [] G I (fun rv Gz Iz => (fun rv I1 => rv = some (.int (nI (pfB (sCs v A p none 0 1512) (gP v)))) ∧ mx_fr I I1 o (o + 5)) rv Iz ∧ Gz = G) (fun _ _ _ => False)
  have hwp := he.2.2.2.2.1
  have he0 := he
  have hs0 := hs
  have hoI := fun u => oI_iff (x := sCs v A p none 0 1512 u) (fun z hz => sCs_lt hwp (Nat.le_refl _) _ _ hz)
  obtain ⟨hsq, hsp, hrp, hvq, hvp⟩ := he
  obtain ⟨hg0, ⟨hg2, hg3, hg4⟩, ⟨hg5, hg6, hg7⟩, ⟨hg8, hg9, hg10⟩, ⟨hg11, hg12, hg13⟩⟩ := hsq
  obtain ⟨⟨hP, hN, hb⟩, hv0, hv1, hF, hK, hT, hC⟩ := hvq
  obtain ⟨ha0, ⟨ha1, ha2, ha3⟩, ⟨ha4, ha5, ha6⟩, ha7, hwh⟩ := hs
  have L12 : ∀ (fq : Nat) (u n : Nat) (I1 : mx_I), gP v - u < fq → (u ≤ gP v) → (n = pfB (sCs v A p none 0 1512) u) → (csN I1 (o + 1) (sCs v A p none 0 1512) 8) → (mx_fr I I1 o (o + 5)) → mx_V mX5_peopleFrom mx_S0 5 0 0 12 [some (.ref o), some (.ref q), some (.int (nI p)), some (.int (nI n)), some (.int (nI u))] [] G I1 (fun rv Gz Iz => (fun rv I1 => rv = some (.int (nI (pfB (sCs v A p none 0 1512) (gP v)))) ∧ mx_fr I I1 o (o + 5)) rv Iz ∧ Gz = G) (fun _ _ _ => False) := by
    intro fq
    induction fq with
    | zero => intro u n I1 hfu; exact absurd hfu (Nat.not_lt_zero _)
    | succ fq ih =>
      intro u n I1 hfu hu hx hc hfr
      refine mx_iload (i := 4) (hl := rfl) (hd := dX5_peopleFrom_12) ?_
      refine mx_aload_n (i := 1) (hi := rfl) (hl := rfl) (hd := dX5_peopleFrom_14) ?_
      refine mx_getV (ci := 6) (k := 0) (nI (gP v)) dX5_peopleFrom_15 k_166 (by decide) rfl (by assumption) (by rw [hfr _ (by omega)]; exact hv0) ?_
      refine mx_cmpN_ge 50 dX5_peopleFrom_18 (by decide) (by omega) (by omega) (fun c18 => ?_) (fun c18 => ?_)
      · skip
        refine mx_iload_n (i := 3) (hi := rfl) (hl := rfl) (hd := dX5_peopleFrom_50) ?_
        exact mx_iret dX5_peopleFrom_51 rfl rfl (⟨⟨by rw [hx, show u = gP v by omega], hfr⟩, rfl⟩)
      · skip
        refine mx_iload_n (i := 3) (hi := rfl) (hl := rfl) (hd := dX5_peopleFrom_21) ?_
        refine mx_aload_n (i := 0) (hi := rfl) (hl := rfl) (hd := dX5_peopleFrom_22) ?_
        refine mx_getR (ci := 5) (k := 0) (r := (o + 1)) dX5_peopleFrom_23 k_247 (by decide) rfl (by assumption) (by assumption) (by omega) ?_
        refine mx_iload (i := 4) (hl := rfl) (hd := dX5_peopleFrom_26) ?_
        refine mx_ialdV u (oI (sCs v A p none 0 1512 u) : Int32) dX5_peopleFrom_28 (by assumption) ⟨rfl, by omega, by omega⟩ (hc u (by omega)) ?_
        refine mx_bipush (v := (-9)) (by decide) dX5_peopleFrom_29 ?_
        refine mx_icmp_ne (tgt := 38) dX5_peopleFrom_31 (by decide) (fun c31 => ?_) (fun c31 => ?_)
        · skip
          refine mx_iconstN 1 dX5_peopleFrom_38 (by decide) ?_
          refine mx_iload (i := 4) (hl := rfl) (hd := dX5_peopleFrom_39) ?_
          refine mx_ishl1N dX5_peopleFrom_41 (by omega) ?_
          refine mx_iorN dX5_peopleFrom_42 ?_
          refine mx_istoreE_n (i := 3) (ls' := [some (.ref o), some (.ref q), some (.int (nI p)), some (.int (nI (n ||| (2 ^ u)))), some (.int (nI u))]) (hi := rfl) (hd := dX5_peopleFrom_43) (hn := by decide) (hok := rfl) (hls := rfl) ?_
          refine mx_iincE (i := 4) (ls' := [some (.ref o), some (.ref q), some (.int (nI p)), some (.int (nI (n ||| (2 ^ u)))), some (.int (nI (u + 1)))]) 1 dX5_peopleFrom_44 rfl (by decide) (by decide) rfl rfl ?_
          refine mx_goto (tgt := 12) dX5_peopleFrom_47 (by decide) ?_
          exact ih (u + 1) _ _ (by omega) (by omega) (by rw [hx, pfB, if_neg (fun z => c31 ((hoI u).mpr z))]) hc hfr
        · skip
          refine mx_iconstN 0 dX5_peopleFrom_34 (by decide) ?_
          refine mx_goto (tgt := 42) dX5_peopleFrom_35 (by decide) ?_
          refine mx_iorN dX5_peopleFrom_42 ?_
          refine mx_istoreE_n (i := 3) (ls' := [some (.ref o), some (.ref q), some (.int (nI p)), some (.int (nI (n ||| 0))), some (.int (nI u))]) (hi := rfl) (hd := dX5_peopleFrom_43) (hn := by decide) (hok := rfl) (hls := rfl) ?_
          refine mx_iincE (i := 4) (ls' := [some (.ref o), some (.ref q), some (.int (nI p)), some (.int (nI (n ||| 0))), some (.int (nI (u + 1)))]) 1 dX5_peopleFrom_44 rfl (by decide) (by decide) rfl rfl ?_
          refine mx_goto (tgt := 12) dX5_peopleFrom_47 (by decide) ?_
          exact ih (u + 1) _ _ (by omega) (by omega) (by rw [hx, pfB, if_pos ((hoI u).mp c31)]) hc hfr
  refine mx_aload_n (i := 0) (hi := rfl) (hl := rfl) (hd := dX5_peopleFrom_0) ?_
  refine mx_aload_n (i := 1) (hi := rfl) (hl := rfl) (hd := dX5_peopleFrom_1) ?_
  refine mx_iload_n (i := 2) (hi := rfl) (hl := rfl) (hd := dX5_peopleFrom_2) ?_
  refine mx_iconstN 0 dX5_peopleFrom_3 (by decide) ?_
  refine mx_callVi (ci := 5) (As := [.ref q, .int (nI p), .int (nI 0)]) (rest := []) dX5_peopleFrom_4 (ct_fromPerson G I o hs0 q pt v A he0 hd1 hd2 p 0 hp (by decide)) km_X5_fromPerson rfl k_620 k_621 k_622 (by assumption) rfl rfl (Nat.le_of_ble_eq_true rfl) (by decide) (fun r1 I2 h2 => ?_)
  obtain ⟨e9, ⟨hq1, hq2, hq3, hq4⟩, hq5, hq6⟩ := h2
  subst e9
  refine mx_iconstN 0 dX5_peopleFrom_7 (by decide) ?_
  refine mx_istoreE_n (i := 3) (ls' := [some (.ref o), some (.ref q), some (.int (nI p)), some (.int (nI 0)), none]) (hi := rfl) (hd := dX5_peopleFrom_8) (hn := by decide) (hok := rfl) (hls := rfl) ?_
  refine mx_iconstN 0 dX5_peopleFrom_9 (by decide) ?_
  refine mx_istoreE (i := 4) (ls' := [some (.ref o), some (.ref q), some (.int (nI p)), some (.int (nI 0)), some (.int (nI 0))]) (hd := dX5_peopleFrom_10) (hn := by decide) (hok := rfl) (hls := rfl) ?_
  exact L12 _ 0 0 _ (Nat.lt_succ_self _) (Nat.zero_le _) rfl hq2 hq5

def ptB (v : Gr) (A : Pa) (r : Nat) : Nat → Nat
  | 0 => 0
  | p + 1 => ptB v A r p ||| (if sCs v A p (some r) 0 1512 r = none then 0 else 2 ^ p)

set_option maxHeartbeats 4000000 in
set_option maxRecDepth 100000 in
theorem ct_peopleTo (G : mx_G) (I : mx_I) (o : Nat) (hs : oSE G o) (q pt : Nat) (v : Gr) (A : Pa) (he : env G I q pt v A) (hd1 : q + 5 ≤ o ∨ o + 5 ≤ q) (hd2 : pt + 5 ≤ o ∨ o + 5 ≤ pt) (r : Nat) (hr : r < gP v) : mx_CTi yX5_peopleTo mX5_peopleTo 5 [.ref o, .ref q, .int (nI r)] G I (fun rv I1 => rv = some (.int (nI (ptB v A r (gP v)))) ∧ mx_fr I I1 o (o + 5)) := by
  refine mx_start (k := 2) (by decide) rfl rfl (fun h => nomatch h) (Nat.le_of_ble_eq_true rfl) ?_
  show mx_V mX5_peopleTo mx_S0 5 0 0 0 [some (.ref o), some (.ref q), some (.int (nI r)), none, none] [] G I (fun rv Gz Iz => (fun rv I1 => rv = some (.int (nI (ptB v A r (gP v)))) ∧ mx_fr I I1 o (o + 5)) rv Iz ∧ Gz = G) (fun _ _ _ => False)
  have hwp := he.2.2.2.2.1
  have he0 := he
  have hs0 := hs
  obtain ⟨hsq, hsp, hrp, hvq, hvp⟩ := he
  obtain ⟨hg0, ⟨hg2, hg3, hg4⟩, ⟨hg5, hg6, hg7⟩, ⟨hg8, hg9, hg10⟩, ⟨hg11, hg12, hg13⟩⟩ := hsq
  obtain ⟨⟨hP, hN, hb⟩, hv0, hv1, hF, hK, hT, hC⟩ := hvq
  obtain ⟨ha0, ⟨ha1, ha2, ha3⟩, ⟨ha4, ha5, ha6⟩, ha7, hwh⟩ := hs
  have L5 : ∀ (fq : Nat) (u n : Nat) (I1 : mx_I), gP v - u < fq → (u ≤ gP v) → (n = ptB v A r u) → (mx_fr I I1 o (o + 5)) → mx_V mX5_peopleTo mx_S0 5 0 0 5 [some (.ref o), some (.ref q), some (.int (nI r)), some (.int (nI n)), some (.int (nI u))] [] G I1 (fun rv Gz Iz => (fun rv I1 => rv = some (.int (nI (ptB v A r (gP v)))) ∧ mx_fr I I1 o (o + 5)) rv Iz ∧ Gz = G) (fun _ _ _ => False) := by
    intro fq
    induction fq with
    | zero => intro u n I1 hfu; exact absurd hfu (Nat.not_lt_zero _)
    | succ fq ih =>
      intro u n I1 hfu hu hx hfr
      refine mx_iload (i := 4) (hl := rfl) (hd := dX5_peopleTo_5) ?_
      refine mx_aload_n (i := 1) (hi := rfl) (hl := rfl) (hd := dX5_peopleTo_7) ?_
      refine mx_getV (ci := 6) (k := 0) (nI (gP v)) dX5_peopleTo_8 k_166 (by decide) rfl (by assumption) (by rw [hfr _ (by omega)]; exact hv0) ?_
      refine mx_cmpN_ge 43 dX5_peopleTo_11 (by decide) (by omega) (by omega) (fun c11 => ?_) (fun c11 => ?_)
      · skip
        refine mx_iload_n (i := 3) (hi := rfl) (hl := rfl) (hd := dX5_peopleTo_43) ?_
        exact mx_iret dX5_peopleTo_44 rfl rfl (⟨⟨by rw [hx, show u = gP v by omega], hfr⟩, rfl⟩)
      · skip
        refine mx_iload_n (i := 3) (hi := rfl) (hl := rfl) (hd := dX5_peopleTo_14) ?_
        refine mx_aload_n (i := 0) (hi := rfl) (hl := rfl) (hd := dX5_peopleTo_15) ?_
        refine mx_aload_n (i := 1) (hi := rfl) (hl := rfl) (hd := dX5_peopleTo_16) ?_
        refine mx_iload (i := 4) (hl := rfl) (hd := dX5_peopleTo_17) ?_
        refine mx_iload_n (i := 2) (hi := rfl) (hl := rfl) (hd := dX5_peopleTo_19) ?_
        refine mx_iconstN 0 dX5_peopleTo_20 (by decide) ?_
        refine mx_callVi (ci := 5) (As := [.ref q, .int (nI u), .int (nI r), .int (nI 0)]) (rest := [.int (nI n)]) dX5_peopleTo_21 (ct_finds G I1 o hs0 q pt v A (he0.fr hfr (by omega) (by omega)) hd1 hd2 u r 0 (by omega) hr (by decide)) km_X5_finds rfl k_739 k_635 k_636 (by assumption) rfl rfl (Nat.le_of_ble_eq_true rfl) (by decide) (fun r1 I2 h2 => ?_)
        obtain ⟨e9, hq5⟩ := h2
        subst e9
        refine mx_ifB_eq 34 dX5_peopleTo_24 (by decide) (fun c24 => ?_) (fun c24 => ?_)
        · skip
          refine mx_iconstN 0 dX5_peopleTo_34 (by decide) ?_
          refine mx_iorN dX5_peopleTo_35 ?_
          refine mx_istoreE_n (i := 3) (ls' := [some (.ref o), some (.ref q), some (.int (nI r)), some (.int (nI (n ||| 0))), some (.int (nI u))]) (hi := rfl) (hd := dX5_peopleTo_36) (hn := by decide) (hok := rfl) (hls := rfl) ?_
          refine mx_iincE (i := 4) (ls' := [some (.ref o), some (.ref q), some (.int (nI r)), some (.int (nI (n ||| 0))), some (.int (nI (u + 1)))]) 1 dX5_peopleTo_37 rfl (by decide) (by decide) rfl rfl ?_
          refine mx_goto (tgt := 5) dX5_peopleTo_40 (by decide) ?_
          exact ih (u + 1) _ _ (by omega) (by omega) (by rw [hx, ptB, if_pos (Classical.not_not.mp c24)]) (hfr.tr hq5)
        · skip
          refine mx_iconstN 1 dX5_peopleTo_27 (by decide) ?_
          refine mx_iload (i := 4) (hl := rfl) (hd := dX5_peopleTo_28) ?_
          refine mx_ishl1N dX5_peopleTo_30 (by omega) ?_
          refine mx_goto (tgt := 35) dX5_peopleTo_31 (by decide) ?_
          refine mx_iorN dX5_peopleTo_35 ?_
          refine mx_istoreE_n (i := 3) (ls' := [some (.ref o), some (.ref q), some (.int (nI r)), some (.int (nI (n ||| (2 ^ u)))), some (.int (nI u))]) (hi := rfl) (hd := dX5_peopleTo_36) (hn := by decide) (hok := rfl) (hls := rfl) ?_
          refine mx_iincE (i := 4) (ls' := [some (.ref o), some (.ref q), some (.int (nI r)), some (.int (nI (n ||| (2 ^ u)))), some (.int (nI (u + 1)))]) 1 dX5_peopleTo_37 rfl (by decide) (by decide) rfl rfl ?_
          refine mx_goto (tgt := 5) dX5_peopleTo_40 (by decide) ?_
          exact ih (u + 1) _ _ (by omega) (by omega) (by rw [hx, ptB, if_neg c24]) (hfr.tr hq5)
  refine mx_iconstN 0 dX5_peopleTo_0 (by decide) ?_
  refine mx_istoreE_n (i := 3) (ls' := [some (.ref o), some (.ref q), some (.int (nI r)), some (.int (nI 0)), none]) (hi := rfl) (hd := dX5_peopleTo_1) (hn := by decide) (hok := rfl) (hls := rfl) ?_
  refine mx_iconstN 0 dX5_peopleTo_2 (by decide) ?_
  refine mx_istoreE (i := 4) (ls' := [some (.ref o), some (.ref q), some (.int (nI r)), some (.int (nI 0)), some (.int (nI 0))]) (hd := dX5_peopleTo_3) (hn := by decide) (hok := rfl) (hls := rfl) ?_
  exact L5 _ 0 0 I (Nat.lt_succ_self _) (Nat.zero_le _) rfl (mx_fr.rf _ _ _)

set_option maxHeartbeats 4000000 in
set_option maxRecDepth 100000 in
theorem ct_survey (G : mx_G) (I : mx_I) (o : Nat) (hs : oSE G o) (q pt : Nat) (v : Gr) (A : Pa) (he : env G I q pt v A) (hd1 : q + 5 ≤ o ∨ o + 5 ≤ q) (hd2 : pt + 5 ≤ o ∨ o + 5 ≤ pt) (bl : Nat) (hbl31 : bl < 2 ^ 31) : mx_CTi yX5_survey mX5_survey 5 [.ref o, .ref q, .int (nI bl)] G I (fun rv I1 => rv = none ∧ I1 o 1 = nI (svP v A bl (gP v)).1 ∧ I1 o 2 = oI (svP v A bl (gP v)).2 ∧ mx_fr I I1 o (o + 5)) := by
  refine mx_start (k := 2) (by decide) rfl rfl (fun h => nomatch h) (Nat.le_of_ble_eq_true rfl) ?_
  show mx_V mX5_survey mx_S0 5 0 0 0 [some (.ref o), some (.ref q), some (.int (nI bl)), none, none] [] G I (fun rv Gz Iz => (fun rv I1 => rv = none ∧ I1 o 1 = nI (svP v A bl (gP v)).1 ∧ I1 o 2 = oI (svP v A bl (gP v)).2 ∧ mx_fr I I1 o (o + 5)) rv Iz ∧ Gz = G) (fun _ _ _ => False)
  have hwp := he.2.2.2.2.1
  have he0 := he
  have hs0 := hs
  obtain ⟨hsq, hsp, hrp, hvq, hvp⟩ := he
  obtain ⟨hg0, ⟨hg2, hg3, hg4⟩, ⟨hg5, hg6, hg7⟩, ⟨hg8, hg9, hg10⟩, ⟨hg11, hg12, hg13⟩⟩ := hsq
  obtain ⟨⟨hP, hN, hb⟩, hv0, hv1, hF, hK, hT, hC⟩ := hvq
  obtain ⟨ha0, ⟨ha1, ha2, ha3⟩, ⟨ha4, ha5, ha6⟩, ha7, hwh⟩ := hs
  have L13 : ∀ (fq : Nat) (p : Nat) (I1 : mx_I), gP v - p < fq → (p ≤ gP v) → (I1 o 1 = nI (svP v A bl p).1) → (I1 o 2 = oI (svP v A bl p).2) → (mx_fr I I1 o (o + 5)) → mx_V mX5_survey mx_S0 5 0 0 13 [some (.ref o), some (.ref q), some (.int (nI bl)), some (.int (nI p)), none] [] G I1 (fun rv Gz Iz => (fun rv I1 => rv = none ∧ I1 o 1 = nI (svP v A bl (gP v)).1 ∧ I1 o 2 = oI (svP v A bl (gP v)).2 ∧ mx_fr I I1 o (o + 5)) rv Iz ∧ Gz = G) (fun _ _ _ => False) := by
    intro fq
    induction fq with
    | zero => intro p I1 hfu; exact absurd hfu (Nat.not_lt_zero _)
    | succ fq ih =>
      intro p I1 hfu hp h1 h2 hfr
      have hoI := fun u => oI_iff (x := sCs v A p none bl 1512 u) (fun z hz => sCs_lt hwp (Nat.le_refl _) _ _ hz)
      have L31 : ∀ (fq : Nat) (u : Nat) (I2 : mx_I), gP v - u < fq → (u ≤ gP v) → (p < gP v) → (I2 o 1 = nI (svQ (sCs v A p none bl 1512) u (svP v A bl p)).1) → (I2 o 2 = oI (svQ (sCs v A p none bl 1512) u (svP v A bl p)).2) → (csN I2 (o + 1) (sCs v A p none bl 1512) 8) → (mx_fr I I2 o (o + 5)) → mx_V mX5_survey mx_S0 5 0 0 31 [some (.ref o), some (.ref q), some (.int (nI bl)), some (.int (nI p)), some (.int (nI u))] [] G I2 (fun rv Gz Iz => (fun rv I1 => rv = none ∧ I1 o 1 = nI (svP v A bl (gP v)).1 ∧ I1 o 2 = oI (svP v A bl (gP v)).2 ∧ mx_fr I I1 o (o + 5)) rv Iz ∧ Gz = G) (fun _ _ _ => False) := by
        intro fq
        induction fq with
        | zero => intro u I2 hfu; exact absurd hfu (Nat.not_lt_zero _)
        | succ fq ih2 =>
          intro u I2 hfu hu hpl g1 g2 gc gfr
          refine mx_iload (i := 4) (hl := rfl) (hd := dX5_survey_31) ?_
          refine mx_aload_n (i := 1) (hi := rfl) (hl := rfl) (hd := dX5_survey_33) ?_
          refine mx_getV (ci := 6) (k := 0) (nI (gP v)) dX5_survey_34 k_166 (by decide) rfl (by assumption) (by rw [gfr _ (by omega)]; exact hv0) ?_
          refine mx_cmpN_ge 90 dX5_survey_37 (by decide) (by omega) (by omega) (fun c37 => ?_) (fun c37 => ?_)
          · skip
            refine mx_iincE (i := 3) (ls' := [some (.ref o), some (.ref q), some (.int (nI bl)), some (.int (nI (p + 1))), some (.int (nI u))]) 1 dX5_survey_90 rfl (by decide) (by decide) rfl rfl ?_
            refine mx_goto (tgt := 13) dX5_survey_93 (by decide) ?_
            refine mx_leS (ls' := [some (.ref o), some (.ref q), some (.int (nI bl)), some (.int (nI (p + 1))), none]) ⟨rfl, rfl, rfl, rfl, trivial⟩ ?_
            exact ih (p + 1) _ (by omega) (by omega) (by rw [g1, show u = gP v by omega]; rfl) (by rw [g2, show u = gP v by omega]; rfl) gfr
          · skip
            refine mx_aload_n (i := 0) (hi := rfl) (hl := rfl) (hd := dX5_survey_40) ?_
            refine mx_dup (hva := rfl) (hd := dX5_survey_41) ?_
            refine mx_getV (ci := 5) (k := 1) (nI ((svQ (sCs v A p none bl 1512) u (svP v A bl p)).1)) dX5_survey_42 k_250 (by decide) rfl (by assumption) g1 ?_
            refine mx_aload_n (i := 0) (hi := rfl) (hl := rfl) (hd := dX5_survey_45) ?_
            refine mx_getR (ci := 5) (k := 0) (r := (o + 1)) dX5_survey_46 k_247 (by decide) rfl (by assumption) (by assumption) (by omega) ?_
            refine mx_iload (i := 4) (hl := rfl) (hd := dX5_survey_49) ?_
            refine mx_ialdV u (oI (sCs v A p none bl 1512 u) : Int32) dX5_survey_51 (by assumption) ⟨rfl, by omega, by omega⟩ (gc u (by omega)) ?_
            refine mx_bipush (v := (-9)) (by decide) dX5_survey_52 ?_
            refine mx_icmp_ne (tgt := 61) dX5_survey_54 (by decide) (fun c54 => ?_) (fun c54 => ?_)
            · skip
              refine mx_iconstN 1 dX5_survey_61 (by decide) ?_
              refine mx_iaddN dX5_survey_62 ?_
              refine mx_putI (ci := 5) (k := 1) dX5_survey_63 k_250 (by decide) rfl rfl rfl rfl (by assumption) ?_
              refine mx_aload_n (i := 0) (hi := rfl) (hl := rfl) (hd := dX5_survey_66) ?_
              refine mx_aload_n (i := 0) (hi := rfl) (hl := rfl) (hd := dX5_survey_67) ?_
              refine mx_getV (ci := 5) (k := 2) (oI (svQ (sCs v A p none bl 1512) u (svP v A bl p)).2 : Int32) dX5_survey_68 k_252 (by decide) rfl (by assumption) (by rw [mx_u_at, if_neg (by omega)]; exact g2) ?_
              refine mx_aload_n (i := 0) (hi := rfl) (hl := rfl) (hd := dX5_survey_71) ?_
              refine mx_getR (ci := 5) (k := 0) (r := (o + 1)) dX5_survey_72 k_247 (by decide) rfl (by assumption) (by assumption) (by omega) ?_
              refine mx_iload (i := 4) (hl := rfl) (hd := dX5_survey_75) ?_
              refine mx_ialdV u (oI (sCs v A p none bl 1512 u) : Int32) dX5_survey_77 (by assumption) ⟨rfl, by omega, by omega⟩ (by rw [mx_u_at, if_neg (by omega)]; exact (gc u (by omega))) ?_
              refine mx_mmax dX5_survey_78 km_max_X5_49 (Nat.le_of_ble_eq_true rfl) (by decide) ?_
              refine mx_top (oI_max (fun z hz => svQ_lt (svP_lt hwp p) (fun u z h => sCs_lt hwp (Nat.le_refl _) u z h) u z hz) (fun z hz => sCs_lt hwp (Nat.le_refl _) _ _ hz)) ?_
              refine mx_putI (ci := 5) (k := 2) dX5_survey_81 k_252 (by decide) rfl rfl rfl rfl (by assumption) ?_
              refine mx_iincE (i := 4) (ls' := [some (.ref o), some (.ref q), some (.int (nI bl)), some (.int (nI p)), some (.int (nI (u + 1)))]) 1 dX5_survey_84 rfl (by decide) (by decide) rfl rfl ?_
              refine mx_goto (tgt := 31) dX5_survey_87 (by decide) ?_
              exact ih2 (u + 1) _ (by omega) (by omega) hpl (by rw [mx_u_at, if_neg (by omega), mx_u_at, if_pos ⟨rfl, rfl⟩, svQ, if_neg (fun z => c54 ((hoI u).mpr z))]) (by rw [mx_u_at, if_pos ⟨rfl, rfl⟩]; rfl) ((gc.o (by omega)).o (by omega)) ((gfr.u (by omega)).u (by omega))
            · skip
              refine mx_iconstN 0 dX5_survey_57 (by decide) ?_
              refine mx_goto (tgt := 62) dX5_survey_58 (by decide) ?_
              refine mx_iaddN dX5_survey_62 ?_
              refine mx_putI (ci := 5) (k := 1) dX5_survey_63 k_250 (by decide) rfl rfl rfl rfl (by assumption) ?_
              refine mx_aload_n (i := 0) (hi := rfl) (hl := rfl) (hd := dX5_survey_66) ?_
              refine mx_aload_n (i := 0) (hi := rfl) (hl := rfl) (hd := dX5_survey_67) ?_
              refine mx_getV (ci := 5) (k := 2) (oI (svQ (sCs v A p none bl 1512) u (svP v A bl p)).2 : Int32) dX5_survey_68 k_252 (by decide) rfl (by assumption) (by rw [mx_u_at, if_neg (by omega)]; exact g2) ?_
              refine mx_aload_n (i := 0) (hi := rfl) (hl := rfl) (hd := dX5_survey_71) ?_
              refine mx_getR (ci := 5) (k := 0) (r := (o + 1)) dX5_survey_72 k_247 (by decide) rfl (by assumption) (by assumption) (by omega) ?_
              refine mx_iload (i := 4) (hl := rfl) (hd := dX5_survey_75) ?_
              refine mx_ialdV u (oI (sCs v A p none bl 1512 u) : Int32) dX5_survey_77 (by assumption) ⟨rfl, by omega, by omega⟩ (by rw [mx_u_at, if_neg (by omega)]; exact (gc u (by omega))) ?_
              refine mx_mmax dX5_survey_78 km_max_X5_49 (Nat.le_of_ble_eq_true rfl) (by decide) ?_
              refine mx_top (oI_max (fun z hz => svQ_lt (svP_lt hwp p) (fun u z h => sCs_lt hwp (Nat.le_refl _) u z h) u z hz) (fun z hz => sCs_lt hwp (Nat.le_refl _) _ _ hz)) ?_
              refine mx_putI (ci := 5) (k := 2) dX5_survey_81 k_252 (by decide) rfl rfl rfl rfl (by assumption) ?_
              refine mx_iincE (i := 4) (ls' := [some (.ref o), some (.ref q), some (.int (nI bl)), some (.int (nI p)), some (.int (nI (u + 1)))]) 1 dX5_survey_84 rfl (by decide) (by decide) rfl rfl ?_
              refine mx_goto (tgt := 31) dX5_survey_87 (by decide) ?_
              exact ih2 (u + 1) _ (by omega) (by omega) hpl (by rw [mx_u_at, if_neg (by omega), mx_u_at, if_pos ⟨rfl, rfl⟩, svQ, if_pos ((hoI u).mp c54)]) (by rw [mx_u_at, if_pos ⟨rfl, rfl⟩]; rfl) ((gc.o (by omega)).o (by omega)) ((gfr.u (by omega)).u (by omega))
      refine mx_iload_n (i := 3) (hi := rfl) (hl := rfl) (hd := dX5_survey_13) ?_
      refine mx_aload_n (i := 1) (hi := rfl) (hl := rfl) (hd := dX5_survey_14) ?_
      refine mx_getV (ci := 6) (k := 0) (nI (gP v)) dX5_survey_15 k_166 (by decide) rfl (by assumption) (by rw [hfr _ (by omega)]; exact hv0) ?_
      refine mx_cmpN_ge 96 dX5_survey_18 (by decide) (by omega) (by omega) (fun c18 => ?_) (fun c18 => ?_)
      · skip
        exact mx_vret dX5_survey_96 rfl (⟨⟨rfl, by rw [h1, show p = gP v by omega], by rw [h2, show p = gP v by omega], hfr⟩, rfl⟩)
      · skip
        refine mx_aload_n (i := 0) (hi := rfl) (hl := rfl) (hd := dX5_survey_21) ?_
        refine mx_aload_n (i := 1) (hi := rfl) (hl := rfl) (hd := dX5_survey_22) ?_
        refine mx_iload_n (i := 3) (hi := rfl) (hl := rfl) (hd := dX5_survey_23) ?_
        refine mx_iload_n (i := 2) (hi := rfl) (hl := rfl) (hd := dX5_survey_24) ?_
        refine mx_callVi (ci := 5) (As := [.ref q, .int (nI p), .int (nI bl)]) (rest := []) dX5_survey_25 (ct_fromPerson G I1 o hs0 q pt v A (he0.fr hfr (by omega) (by omega)) hd1 hd2 p bl (by omega) hbl31) km_X5_fromPerson rfl k_620 k_621 k_622 (by assumption) rfl rfl (Nat.le_of_ble_eq_true rfl) (by decide) (fun r1 I3 h2 => ?_)
        obtain ⟨e9, ⟨hq1, hq2, hq3, hq4⟩, hq5, hq6⟩ := h2
        subst e9
        have k1 : I3 o 1 = nI (svP v A bl p).1 := by rw [hq6.1]; exact h1
        have k2 : I3 o 2 = oI (svP v A bl p).2 := by rw [hq6.2]; exact h2
        have k3 := hfr.tr hq5
        refine mx_iconstN 0 dX5_survey_28 (by decide) ?_
        refine mx_istoreE (i := 4) (ls' := [some (.ref o), some (.ref q), some (.int (nI bl)), some (.int (nI p)), some (.int (nI 0))]) (hd := dX5_survey_29) (hn := by decide) (hok := rfl) (hls := rfl) ?_
        exact L31 _ 0 _ (Nat.lt_succ_self _) (Nat.zero_le _) (by omega) k1 k2 hq2 k3
  refine mx_aload_n (i := 0) (hi := rfl) (hl := rfl) (hd := dX5_survey_0) ?_
  refine mx_iconstN 0 dX5_survey_1 (by decide) ?_
  refine mx_putI (ci := 5) (k := 1) dX5_survey_2 k_250 (by decide) rfl rfl rfl rfl (by assumption) ?_
  refine mx_aload_n (i := 0) (hi := rfl) (hl := rfl) (hd := dX5_survey_5) ?_
  refine mx_bipush (v := (-9)) (by decide) dX5_survey_6 ?_
  refine mx_putI (ci := 5) (k := 2) dX5_survey_8 k_252 (by decide) rfl rfl rfl rfl (by assumption) ?_
  refine mx_iconstN 0 dX5_survey_11 (by decide) ?_
  refine mx_istoreE_n (i := 3) (ls' := [some (.ref o), some (.ref q), some (.int (nI bl)), some (.int (nI 0)), none]) (hi := rfl) (hd := dX5_survey_12) (hn := by decide) (hok := rfl) (hls := rfl) ?_
  exact L13 _ 0 _ (Nat.lt_succ_self _) (Nat.zero_le _) (by rw [mx_u_at, if_neg (by omega), mx_u_at, if_pos ⟨rfl, rfl⟩]; rfl) (by rw [mx_u_at, if_pos ⟨rfl, rfl⟩]; rfl) (((mx_fr.rf _ _ _).u (by omega)).u (by omega))

set_option maxHeartbeats 4000000 in
set_option maxRecDepth 100000 in
theorem ct_couldGo (G : mx_G) (I : mx_I) (o : Nat) (hs : oSE G o) (q pt : Nat) (v : Gr) (A : Pa) (he : env G I q pt v A) (rc : Nat → Nat) (hrc : arN I (o + 2) rc 8) (u going : Nat) (hu : u < 8) (hrl : rc u < 2 ^ 21) (hg8 : going < 8) : mx_CTp yX5_couldGo mX5_couldGo 3 [.ref o, .ref q, .int (nI u), .int (nI going)] G I (some (.int (mx_b (decide (¬ pFol A (rc u) &&& pE A going = 0))))) := by
  refine mx_start (k := 0) (by decide) rfl rfl (fun h => nomatch h) (Nat.le_of_ble_eq_true rfl) ?_
  show mx_V mX5_couldGo mx_S0 3 0 0 0 [some (.ref o), some (.ref q), some (.int (nI u)), some (.int (nI going))] [] G I (fun rv Gz Iz => rv = some (.int (mx_b (decide (¬ pFol A (rc u) &&& pE A going = 0)))) ∧ Gz = G ∧ Iz = I) (fun _ _ _ => False)
  have hwp := he.2.2.2.2.1
  have he0 := he
  obtain ⟨hsq, hsp, hrp, hvq, hvp⟩ := he
  have hsp0 := hsp
  have hvp0 := hvp
  obtain ⟨hg0, ⟨hg2, hg3, hg4⟩, ⟨hg5, hg6, hg7⟩, ⟨hg8, hg9, hg10⟩, ⟨hg11, hg12, hg13⟩⟩ := hsq
  obtain ⟨⟨hP, hN, hb⟩, hv0, hv1, hF, hK, hT, hC⟩ := hvq
  obtain ⟨hp0, ⟨hp2, hp3, hp4⟩, ⟨hp5, hp6, hp7⟩, ⟨hp8, hp9, hp10⟩, ⟨hp11, hp12, hp13⟩⟩ := hsp
  obtain ⟨⟨hwL, hwA, hwB, hwE, hwc, hwz, hwx⟩, hu1, hu2, hu6, hCh, hA, hB, hE⟩ := hvp
  obtain ⟨ha0, ⟨ha1, ha2, ha3⟩, ⟨ha4, ha5, ha6⟩, ha7, hwh⟩ := hs
  refine mx_aload_n (i := 1) (hi := rfl) (hl := rfl) (hd := dX5_couldGo_0) ?_
  refine mx_getR (ci := 6) (k := 6) (r := pt) dX5_couldGo_1 k_194 (by decide) rfl (by assumption) (by assumption) (by omega) ?_
  refine mx_aload_n (i := 0) (hi := rfl) (hl := rfl) (hd := dX5_couldGo_4) ?_
  refine mx_getR (ci := 5) (k := 3) (r := (o + 2)) dX5_couldGo_5 k_253 (by decide) rfl (by assumption) (by assumption) (by omega) ?_
  refine mx_iload_n (i := 2) (hi := rfl) (hl := rfl) (hd := dX5_couldGo_8) ?_
  refine mx_ialdV u (nI (rc u)) dX5_couldGo_9 (by assumption) ⟨rfl, by omega, by omega⟩ (hrc u (by omega)) ?_
  refine mx_callVp (ci := 2) (As := [.int (nI (rc u))]) (rest := []) dX5_couldGo_10 (ct_following G I pt A hsp0 hvp0 (rc u) hrl) km_X2_following rfl k_566 k_567 k_568 (by assumption) rfl rfl (Nat.le_of_ble_eq_true rfl) (by decide) ?_
  refine mx_aload_n (i := 1) (hi := rfl) (hl := rfl) (hd := dX5_couldGo_13) ?_
  refine mx_getR (ci := 6) (k := 6) (r := pt) dX5_couldGo_14 k_194 (by decide) rfl (by assumption) (by assumption) (by omega) ?_
  refine mx_getR (ci := 2) (k := 5) (r := (pt + 4)) dX5_couldGo_17 k_92 (by decide) rfl (by assumption) (by assumption) (by omega) ?_
  refine mx_iload_n (i := 3) (hi := rfl) (hl := rfl) (hd := dX5_couldGo_20) ?_
  refine mx_ialdV going (nI (pE A going)) dX5_couldGo_21 (by assumption) ⟨rfl, by omega, by omega⟩ (hE going (by omega)) ?_
  refine mx_iandN dX5_couldGo_22 ?_
  refine mx_ifN_eq 30 dX5_couldGo_23 (by decide) (by have := mx_and_lt (b := pE A going) (pFol_lt hwp (rc u)); omega) (fun c23 => ?_) (fun c23 => ?_)
  · skip
    refine mx_iconstN 0 dX5_couldGo_30 (by decide) ?_
    exact mx_iret dX5_couldGo_31 rfl (by decide) (⟨congrArg (fun z => some (Value.int z)) (mx_bF (by first | exact c23 | exact fun q => q c23)), rfl, rfl⟩)
  · skip
    refine mx_iconstN 1 dX5_couldGo_26 (by decide) ?_
    refine mx_goto (tgt := 31) dX5_couldGo_27 (by decide) ?_
    exact mx_iret dX5_couldGo_31 rfl (by decide) (⟨congrArg (fun z => some (Value.int z)) (mx_bT (by first | exact c23 | exact fun q => q c23)), rfl, rfl⟩)
