/-! THE REFERENCE: best and what asks it -/
theorem wfP_vA {x : Vl} (h : pOK x) : wfP (vA x) := by
  have hA := auP_rdF x.2.2 x.2.1
  have hk := rI0.K x.2.2 x.2.1 (min x.2.1 40)
  obtain ⟨k1, k2, k3, k4, a1, a2, a3, a4, a5⟩ := hk
  refine ⟨hA.1, fun i _ => inB21 (hA.2.1 i) hA.1, fun i _ => ?_, fun i _ => inB21 (hA.2.2.2.2.1 i) hA.1, ?_, ?_, fun i hi => ?_⟩
  · refine Nat.lt_pow_two_of_testBit _ (fun k hk => ?_)
    have h1 : (pB (vA x) i).testBit k = (pA (vA x) k).testBit i := al_sy a3 1 _ i k
    have h0 : pA (vA x) k = 0 := hA.2.2.1 k (Nat.lt_of_le_of_lt hA.1 (by omega))
    rw [h1, h0, Nat.zero_testBit]
  · refine Nat.lt_pow_two_of_testBit _ (fun k hk => ?_)
    cases e : (pAc (vA x)).testBit k with
    | false => rfl
    | true =>
      have h1 := hA.2.2.2.2.2 k e
      have h2 := hA.1
      exact absurd (Nat.le_trans h1 h2) (by omega)
  · show pSz (rdF x.2.2 x.2.1) ≤ 40
    rw [(rdF_sz _ _).1]; omega
  · have hi : i < pSz (rdF x.2.2 x.2.1) := hi
    rw [(rdF_sz _ _).1] at hi
    show pCh (rdF x.2.2 x.2.1) i < 256
    rw [(rdF_sz _ _).2]
    exact h.2.2 i (by omega)
def eb (x : Option (Nat × Nat)) : Prop := ∀ y, x = some y → y.1 ≤ 1503 ∧ y.2 ≤ 167
theorem bR_eb {v : Gr} {A : Pa} {pr : Nat → Nat} {T : Nat → Nat → Prop} (hv : wfG v) (hA : wfP A) (hpr : ∀ s, s < gN v → pr s ≤ 9) {a i : Nat} (ha : a < 8) (hi : i < 21) : eb (bR v A pr T a i) := fun y hy => ⟨bR_c hv hA hpr ha hi hy, bR_n hv hA ha hi hy⟩
abbrev enM (x : Option (Nat × Nat)) : Nat := enc 1000 100000000 x
theorem en_31 {x : Option (Nat × Nat)} (h : eb x) : enM x < 2 ^ 31 := by
  cases x with
  | none => show 100000000 < 2 ^ 31; omega
  | some y =>
    have := h y rfl
    show 1000 * y.1 + y.2 < 2 ^ 31
    omega
theorem en_lt {x : Option (Nat × Nat)} (h : eb x) : 100000000 ≤ enM x ↔ x = none := by
  cases x with
  | none => exact ⟨fun _ => rfl, fun _ => Nat.le_refl _⟩
  | some y =>
    have := h y rfl
    refine ⟨fun q => ?_, fun q => nomatch q⟩
    have q : 100000000 ≤ 1000 * y.1 + y.2 := q
    omega
theorem en_div {x : Option (Nat × Nat)} (h : eb x) (hx : ¬ x = none) : some (enM x / 1000) = x.map Prod.fst := by
  cases x with
  | none => exact absurd rfl hx
  | some y =>
    have := h y rfl
    show some ((1000 * y.1 + y.2) / 1000) = some y.1
    congr 1; omega
theorem en_mod {x : Option (Nat × Nat)} (h : eb x) (hx : ¬ x = none) : some (enM x % 1000) = x.map Prod.snd := by
  cases x with
  | none => exact absurd rfl hx
  | some y =>
    have := h y rfl
    show some ((1000 * y.1 + y.2) % 1000) = some y.2
    congr 1; omega
theorem prM_9 {v : Gr} (hv : wfG v) (bt : Option Nat) (s : Nat) (hs : s < gN v) : prM v bt s ≤ 9 := by
  unfold prM
  split
  · omega
  · exact (hv.2.2 s hs).2.2.2.2
theorem prM_0 (v : Gr) : prM v none = gC v := by
  funext s
  unfold prM
  rw [if_neg (fun q => nomatch q)]
/-- what stands in the scratch once it is told how far it is to q -/
def fwN (I : mx_I) (m : Nat) (v : Gr) (A : Pa) (pr : Nat → Nat) (q : Nat) : Prop := auN I m A ∧ (∀ s, s < gN v → I (m + 16) s = nI (pr s)) ∧ (∀ k, k < 4 → I (m + 18) k = nI (pEn A 0 k)) ∧ (∀ k, k < 4 → I (m + 19) k = nI (pEn A 1 k)) ∧ ∃ fr, arN I (m + 17) fr 168 ∧ ∀ a i, a < 8 → i < 21 → fr (21 * a + i) = enM (bR v A pr (tgA A q) a i)
theorem lfI.S {I I1 : mx_I} {m : Nat} {A : Pa} (h : lfI I I1 m A) : mS I I1 m := mS.of (fun b k hb => h.2.2 b k (by omega) (by omega) (by omega))

set_option maxHeartbeats 4000000 in
set_option maxRecDepth 100000 in
theorem mt_best (G : mx_G) (I : mx_I) (m : Nat) (hs : oMD G m) (A : Pa) (ha : auN I m A) (hA : auP A) (hwp : wfP A) (g : Nat) (v : Gr) (hg34 : g = m + 3 ∨ g = m + 4) (htg : mx_tg G g = 1) (hlg : mx_ln G g = 143) (hg : gaF (I g) v) (pr : Nat → Nat) (hpr9 : ∀ s, s < gN v → pr s ≤ 9) (hprs : ∀ s, s < gN v → I (m + 16) s = nI (pr s)) (q : Nat) (hq : q < 8) (p : Nat) (hp : p < 8) : mx_CTi yX10_best mX10_best 4 [.ref m, .ref g, .int (nI p), .int (nI q)] G I (fun rv I1 => rv = some (.int (nI (enM (bR v A pr (tgA A q) p 0)))) ∧ fwN I1 m v A pr q ∧ lfI I I1 m A) := by
  refine mx_start (k := 0) (by decide) rfl rfl (fun h => nomatch h) (Nat.le_of_ble_eq_true rfl) ?_
  show mx_V mX10_best mx_S0 4 0 0 0 [some (.ref m), some (.ref g), some (.int (nI p)), some (.int (nI q))] [] G I (fun rv Gz Iz => (fun rv I1 => rv = some (.int (nI (enM (bR v A pr (tgA A q) p 0)))) ∧ fwN I1 m v A pr q ∧ lfI I I1 m A) rv Iz ∧ Gz = G) (fun _ _ _ => False)
  have hs0 := hs
  obtain ⟨tgm, -, -, -, -, -, -, -, -, -, -, -, -, -, -, -, -, ⟨r_far, t_far, l_far⟩, -⟩ := hs
  refine mx_aload_n (i := 0) (hi := rfl) (hl := rfl) (hd := dX10_best_0) ?_
  refine mx_aload_n (i := 1) (hi := rfl) (hl := rfl) (hd := dX10_best_1) ?_
  refine mx_iload_n (i := 3) (hi := rfl) (hl := rfl) (hd := dX10_best_2) ?_
  refine mx_callVi (ci := 10) (As := [.ref g, .int (nI q)]) (rest := []) dX10_best_3 (mt_layFar G I m hs0 A ha hA hwp g v hg34 htg hlg hg pr hpr9 hprs q hq) km_X10_layFar rfl k_1210 k_1212 k_42 (by assumption) rfl rfl (Nat.le_of_ble_eq_true rfl) (by decide) (fun r1 I2 h2 => ?_)
  obtain ⟨e9, ⟨fr, q1, q2⟩, q3⟩ := h2
  subst e9
  refine mx_aload_n (i := 0) (hi := rfl) (hl := rfl) (hd := dX10_best_6) ?_
  refine mx_getR (ci := 10) (k := 24) (r := (m + 17)) dX10_best_7 k_1037 (by decide) rfl (by assumption) (by assumption) (by omega) ?_
  refine mx_bipushN 21 dX10_best_10 (by decide) ?_
  refine mx_iload_n (i := 2) (hi := rfl) (hl := rfl) (hd := dX10_best_12) ?_
  refine mx_imulN dX10_best_13 ?_
  refine mx_ialdV (21 * p) (nI (enM (bR v A pr (tgA A q) p 0))) dX10_best_14 (by assumption) ⟨rfl, by omega, by omega⟩ ((q1 (21 * p) (by omega)).trans (congrArg nI (q2 p 0 hp (by decide)))) ?_
  exact mx_iret dX10_best_15 rfl rfl (⟨⟨rfl, ⟨q3.au ha, fun s hs => (q3.2.2 _ _ (by omega) (by omega) (by omega)).trans (hprs s hs), q3.1, q3.2.1, fr, q1, q2⟩, q3⟩, rfl⟩)

set_option maxHeartbeats 4000000 in
set_option maxRecDepth 100000 in
theorem mt_bestOf (G : mx_G) (I : mx_I) (m : Nat) (hs : oMD G m) (g : Nat) (x : Vl) (hg34 : g = m + 3 ∨ g = m + 4) (htg : mx_tg G g = 1) (hlg : mx_ln G g = 143) (hv : vpF (I g) x) (p q : Nat) (hp : p < 8) (hq : q < 8) (bt : Option Nat) (hbt : ∀ z, bt = some z → z < 2 ^ 31) : mx_CTi yX10_bestOf mX10_bestOf 5 [.ref m, .ref g, .int (nI p), .int (nI q), .int (oI bt)] G I (fun rv I1 => rv = some (.int (nI (enM (bR x.1 (vA x) (prM x.1 bt) (tgA (vA x) q) p 0)))) ∧ fwN I1 m x.1 (vA x) (prM x.1 bt) q ∧ mS I I1 m) := by
  refine mx_start (k := 0) (by decide) rfl rfl (fun h => nomatch h) (Nat.le_of_ble_eq_true rfl) ?_
  show mx_V mX10_bestOf mx_S0 5 0 0 0 [some (.ref m), some (.ref g), some (.int (nI p)), some (.int (nI q)), some (.int (oI bt))] [] G I (fun rv Gz Iz => (fun rv I1 => rv = some (.int (nI (enM (bR x.1 (vA x) (prM x.1 bt) (tgA (vA x) q) p 0)))) ∧ fwN I1 m x.1 (vA x) (prM x.1 bt) q ∧ mS I I1 m) rv Iz ∧ Gz = G) (fun _ _ _ => False)
  have hs0 := hs
  have hv0 := hv
  have hgw := hv.1.1
  have tgm := hs.1
  refine mx_aload_n (i := 0) (hi := rfl) (hl := rfl) (hd := dX10_bestOf_0) ?_
  refine mx_aload_n (i := 1) (hi := rfl) (hl := rfl) (hd := dX10_bestOf_1) ?_
  refine mx_callVi (ci := 10) (As := [.ref g]) (rest := []) dX10_bestOf_2 (mt_compileOf G I m hs0 g x hg34 htg hlg hv0) km_X10_compileOf rfl k_1198 k_1200 k_39 (by assumption) rfl rfl (Nat.le_of_ble_eq_true rfl) (by decide) (fun r1 I2 h2 => ?_)
  obtain ⟨e9, q1, q2⟩ := h2
  subst e9
  have hg2 : gaF (I2 g) x.1 := hv0.1.c hgw.2.1 (fun k _ => by rw [q2.1 g (by omega)])
  refine mx_aload_n (i := 0) (hi := rfl) (hl := rfl) (hd := dX10_bestOf_5) ?_
  refine mx_aload_n (i := 1) (hi := rfl) (hl := rfl) (hd := dX10_bestOf_6) ?_
  refine mx_iload (i := 4) (hl := rfl) (hd := dX10_bestOf_7) ?_
  refine mx_callVi (ci := 10) (As := [.ref g, .int (oI bt)]) (rest := []) dX10_bestOf_9 (mt_layPrices G I2 m hs0 g x.1 htg hlg hg2 (by omega) bt hbt) km_X10_layPrices rfl k_1202 k_1204 k_40 (by assumption) rfl rfl (Nat.le_of_ble_eq_true rfl) (by decide) (fun r3 I3 h4 => ?_)
  obtain ⟨e9, q3, q4⟩ := h4
  subst e9
  have ha3 : auN I3 m (vA x) := q1.k (fun j _ _ => q4 _ _ (by omega)) (fun b k _ _ => q4 _ _ (by omega))
  have hg3 : gaF (I3 g) x.1 := hg2.c hgw.2.1 (fun k _ => q4 _ _ (by omega))
  refine mx_aload_n (i := 0) (hi := rfl) (hl := rfl) (hd := dX10_bestOf_12) ?_
  refine mx_aload_n (i := 1) (hi := rfl) (hl := rfl) (hd := dX10_bestOf_13) ?_
  refine mx_iload_n (i := 2) (hi := rfl) (hl := rfl) (hd := dX10_bestOf_14) ?_
  refine mx_iload_n (i := 3) (hi := rfl) (hl := rfl) (hd := dX10_bestOf_15) ?_
  refine mx_callVi (ci := 10) (As := [.ref g, .int (nI p), .int (nI q)]) (rest := []) dX10_bestOf_16 (mt_best G I3 m hs0 (vA x) ha3 (auP_rdF _ _) (wfP_vA hv0.2.2.2) g x.1 hg34 htg hlg hg3 (prM x.1 bt) (fun s hs => prM_9 hgw bt s hs) q3 q hq p hp) km_X10_best rfl k_1250 k_1252 k_48 (by assumption) rfl rfl (Nat.le_of_ble_eq_true rfl) (by decide) (fun r5 I4 h6 => ?_)
  obtain ⟨e9, q5, q6⟩ := h6
  subst e9
  have hS : mS I I4 m := (q2.S.tr (mS.of (fun b k hb => q4 b k (by omega)))).tr q6.S
  exact mx_iret dX10_bestOf_19 rfl rfl (⟨⟨rfl, q5, hS⟩, rfl⟩)

set_option maxHeartbeats 4000000 in
set_option maxRecDepth 100000 in
theorem mt_bestNow (G : mx_G) (I : mx_I) (m : Nat) (hs : oMD G m) (g : Nat) (x : Vl) (hg34 : g = m + 3 ∨ g = m + 4) (htg : mx_tg G g = 1) (hlg : mx_ln G g = 143) (hv : vpF (I g) x) (p q : Nat) (hp : p < 8) (hq : q < 8) (hgn : g = m + 3) : mx_CTi yX10_bestNow mX10_bestNow 5 [.ref m, .int (nI p), .int (nI q)] G I (fun rv I1 => rv = some (.int (nI (enM (bR x.1 (vA x) (prM x.1 none) (tgA (vA x) q) p 0)))) ∧ fwN I1 m x.1 (vA x) (prM x.1 none) q ∧ mS I I1 m) := by
  refine mx_start (k := 0) (by decide) rfl rfl (fun h => nomatch h) (Nat.le_of_ble_eq_true rfl) ?_
  show mx_V mX10_bestNow mx_S0 5 0 0 0 [some (.ref m), some (.int (nI p)), some (.int (nI q))] [] G I (fun rv Gz Iz => (fun rv I1 => rv = some (.int (nI (enM (bR x.1 (vA x) (prM x.1 none) (tgA (vA x) q) p 0)))) ∧ fwN I1 m x.1 (vA x) (prM x.1 none) q ∧ mS I I1 m) rv Iz ∧ Gz = G) (fun _ _ _ => False)
  have hs0 := hs
  subst hgn
  have hv0 := hv
  have hgw := hv.1.1
  obtain ⟨tgm, -, -, ⟨r_now, t_now, l_now⟩, -⟩ := hs
  refine mx_aload_n (i := 0) (hi := rfl) (hl := rfl) (hd := dX10_bestNow_0) ?_
  refine mx_aload_n (i := 0) (hi := rfl) (hl := rfl) (hd := dX10_bestNow_1) ?_
  refine mx_getR (ci := 10) (k := 5) (r := (m + 3)) dX10_bestNow_2 k_1018 (by decide) rfl (by assumption) (by assumption) (by omega) ?_
  refine mx_callVi (ci := 10) (As := [.ref (m + 3)]) (rest := []) dX10_bestNow_5 (mt_compileOf G I m hs0 (m + 3) x hg34 htg hlg hv0) km_X10_compileOf rfl k_1198 k_1200 k_39 (by assumption) rfl rfl (Nat.le_of_ble_eq_true rfl) (by decide) (fun r1 I2 h2 => ?_)
  obtain ⟨e9, q1, q2⟩ := h2
  subst e9
  have hg2 : gaF (I2 (m + 3)) x.1 := hv0.1.c hgw.2.1 (fun k _ => by rw [q2.1 (m + 3) (by omega)])
  refine mx_aload_n (i := 0) (hi := rfl) (hl := rfl) (hd := dX10_bestNow_8) ?_
  refine mx_aload_n (i := 0) (hi := rfl) (hl := rfl) (hd := dX10_bestNow_9) ?_
  refine mx_getR (ci := 10) (k := 5) (r := (m + 3)) dX10_bestNow_10 k_1018 (by decide) rfl (by assumption) (by assumption) (by omega) ?_
  refine mx_bipush (v := (-9)) (by decide) dX10_bestNow_13 ?_
  refine mx_callVi (ci := 10) (As := [.ref (m + 3), .int (oI none)]) (rest := []) dX10_bestNow_15 (mt_layPrices G I2 m hs0 (m + 3) x.1 htg hlg hg2 (by omega) none (fun z hz => (nomatch hz))) km_X10_layPrices rfl k_1202 k_1204 k_40 (by assumption) rfl rfl (Nat.le_of_ble_eq_true rfl) (by decide) (fun r3 I3 h4 => ?_)
  obtain ⟨e9, q3, q4⟩ := h4
  subst e9
  have ha3 : auN I3 m (vA x) := q1.k (fun j _ _ => q4 _ _ (by omega)) (fun b k _ _ => q4 _ _ (by omega))
  have hg3 : gaF (I3 (m + 3)) x.1 := hg2.c hgw.2.1 (fun k _ => q4 _ _ (by omega))
  refine mx_aload_n (i := 0) (hi := rfl) (hl := rfl) (hd := dX10_bestNow_18) ?_
  refine mx_aload_n (i := 0) (hi := rfl) (hl := rfl) (hd := dX10_bestNow_19) ?_
  refine mx_getR (ci := 10) (k := 5) (r := (m + 3)) dX10_bestNow_20 k_1018 (by decide) rfl (by assumption) (by assumption) (by omega) ?_
  refine mx_iload_n (i := 1) (hi := rfl) (hl := rfl) (hd := dX10_bestNow_23) ?_
  refine mx_iload_n (i := 2) (hi := rfl) (hl := rfl) (hd := dX10_bestNow_24) ?_
  refine mx_callVi (ci := 10) (As := [.ref (m + 3), .int (nI p), .int (nI q)]) (rest := []) dX10_bestNow_25 (mt_best G I3 m hs0 (vA x) ha3 (auP_rdF _ _) (wfP_vA hv0.2.2.2) (m + 3) x.1 hg34 htg hlg hg3 (prM x.1 none) (fun s hs => prM_9 hgw none s hs) q3 q hq p hp) km_X10_best rfl k_1250 k_1252 k_48 (by assumption) rfl rfl (Nat.le_of_ble_eq_true rfl) (by decide) (fun r5 I4 h6 => ?_)
  obtain ⟨e9, q5, q6⟩ := h6
  subst e9
  have hS : mS I I4 m := (q2.S.tr (mS.of (fun b k hb => q4 b k (by omega)))).tr q6.S
  exact mx_iret dX10_bestNow_28 rfl rfl (⟨⟨rfl, q5, hS⟩, rfl⟩)

/-- to whom a path from p fits -/
noncomputable def rcM (v : Gr) (A : Pa) (pr : Nat → Nat) (p : Nat) : Nat → Nat
  | 0 => 0
  | q + 1 => rcM v A pr p q ||| (if bR v A pr (tgA A q) p 0 = none then 0 else 2 ^ q)
noncomputable def ndM (v : Gr) (A : Pa) (p q : Nat) : Nat → Nat
  | 0 => 0
  | s + 1 => ndM v A p q s ||| (if bR v A (prM v (some s)) (tgA A q) p 0 = none then 2 ^ s else 0)
def pvO (x : Option (Nat × Nat)) : Nat × Option Nat := match x with
  | none => (0, none)
  | some y => (1, some y.1)
def opP (a b : Nat × Option Nat) : Nat × Option Nat := (a.1 + b.1, omx a.2 b.2)
noncomputable def lpI (v : Gr) (A : Pa) (pr : Nat → Nat) (q : Nat) : Nat → Nat × Option Nat → Nat × Option Nat
  | 0, x => x
  | p + 1, x => opP (lpI v A pr q p x) (pvO (bR v A pr (tgA A q) p 0))
noncomputable def lpO (v : Gr) (A : Pa) (pr : Nat → Nat) : Nat → Nat × Option Nat
  | 0 => (0, none)
  | q + 1 => lpI v A pr q (gP v) (lpO v A pr q)
theorem pvO_lt {x : Option (Nat × Nat)} (h : eb x) : ∀ z, (pvO x).2 = some z → z < 1504 := by
  cases x with
  | none => exact fun z hz => nomatch hz
  | some y => exact fun z hz => by cases hz; have := h y rfl; omega
theorem lpI_lt {v : Gr} {A : Pa} {pr : Nat → Nat} {q : Nat} (he : ∀ p, p < 8 → eb (bR v A pr (tgA A q) p 0)) {x : Nat × Option Nat} (hx : ∀ z, x.2 = some z → z < 1504) : ∀ p, p ≤ 8 → ∀ z, (lpI v A pr q p x).2 = some z → z < 1504
  | 0, _ => hx
  | p + 1, hp => omx_lt (lpI_lt he hx p (by omega)) (pvO_lt (he p (by omega)))
theorem lpO_lt {v : Gr} {A : Pa} {pr : Nat → Nat} (he : ∀ q p, p < 8 → eb (bR v A pr (tgA A q) p 0)) (hP : gP v ≤ 8) : ∀ q z, (lpO v A pr q).2 = some z → z < 1504
  | 0 => fun z hz => nomatch hz
  | q + 1 => lpI_lt (he q) (lpO_lt he hP q) (gP v) hP
theorem gr_1 {g : Option Nat} {c : Nat} (hg : ∀ z, g = some z → z < 1504) (hc : c < 2000) (h : ¬ (c : Int) ≤ (oI g).toInt) : nI c = oI (omx g (some c)) := by
  cases g with
  | none => rfl
  | some x =>
    have hx := hg x rfl
    have e : (oI (some x)).toInt = (x : Int) := nI_toInt (by omega)
    rw [e] at h
    show nI c = nI (if x < c then c else x)
    rw [if_pos (by omega)]
theorem gr_2 {g : Option Nat} {c : Nat} (hg : ∀ z, g = some z → z < 1504) (hc : c < 2000) (h : (c : Int) ≤ (oI g).toInt) : oI g = oI (omx g (some c)) := by
  cases g with
  | none =>
    have e : (oI none).toInt = -9 := by decide
    rw [e] at h
    omega
  | some x =>
    have hx := hg x rfl
    have e : (oI (some x)).toInt = (x : Int) := nI_toInt (by omega)
    rw [e] at h
    show nI x = nI (if x < c then c else x)
    rw [if_neg (by omega)]
theorem lpI_s0 {v : Gr} {A : Pa} {pr : Nat → Nat} {q p : Nat} {x : Nat × Option Nat} (h : bR v A pr (tgA A q) p 0 = none) : lpI v A pr q (p + 1) x = lpI v A pr q p x := by
  show opP (lpI v A pr q p x) (pvO (bR v A pr (tgA A q) p 0)) = _
  rw [h]
  show ((lpI v A pr q p x).1 + 0, omx (lpI v A pr q p x).2 none) = _
  cases e : (lpI v A pr q p x).2 with
  | none => exact Prod.ext rfl e.symm
  | some z => exact Prod.ext rfl e.symm
theorem lpI_s1 {v : Gr} {A : Pa} {pr : Nat → Nat} {q p : Nat} {x : Nat × Option Nat} (he : eb (bR v A pr (tgA A q) p 0)) (h : ¬ bR v A pr (tgA A q) p 0 = none) : lpI v A pr q (p + 1) x = ((lpI v A pr q p x).1 + 1, omx (lpI v A pr q p x).2 (some (enM (bR v A pr (tgA A q) p 0) / 1000))) := by
  show opP (lpI v A pr q p x) (pvO (bR v A pr (tgA A q) p 0)) = _
  have h1 := en_div he h
  cases e : bR v A pr (tgA A q) p 0 with
  | none => exact absurd e h
  | some y =>
    rw [e] at h1
    rw [h1]
    rfl
/-- the places of far at a person's positions that are exactly so far -/
def lvM (rs : Nat → Nat) (a se k lf : Nat) : Nat → Nat
  | 0 => 0
  | i + 1 => lvM rs a se k lf i ||| (if se.testBit i = true ∧ rs (21 * a + i) + k = lf then 2 ^ i else 0)

set_option maxHeartbeats 4000000 in
set_option maxRecDepth 100000 in
theorem mt_soFar (G : mx_G) (I : mx_I) (m : Nat) (hs : oMD G m) (L : Nat) (h11 : I m 11 = nI L) (hL : L ≤ 20) (fr : Nat → Nat) (har : arN I (m + 17) fr 168) (hfb : ∀ j, fr j ≤ 100000000) (se a k lf : Nat) (x : Int32) (hse : se < 2 ^ 31) (ha8 : a < 8) (hx : ∀ r, r ≤ 100000000 → (nI r = x ↔ r + k = lf)) : mx_CTp yX10_soFar mX10_soFar 1 [.ref m, .int (nI se), .int (nI a), .int x] G I (some (.int (nI (lvM fr a se k lf (L + 1))))) := by
  refine mx_start (k := 2) (by decide) rfl rfl (fun h => nomatch h) (Nat.le_of_ble_eq_true rfl) ?_
  show mx_V mX10_soFar mx_S0 1 0 0 0 [some (.ref m), some (.int (nI se)), some (.int (nI a)), some (.int x), none, none] [] G I (fun rv Gz Iz => rv = some (.int (nI (lvM fr a se k lf (L + 1)))) ∧ Gz = G ∧ Iz = I) (fun _ _ _ => False)
  obtain ⟨tgm, -, -, -, -, -, -, -, -, -, -, -, -, -, -, -, -, ⟨r_far, t_far, l_far⟩, -⟩ := hs
  have L6 : ∀ (fq : Nat) (i n : Nat), L + 1 - i < fq → (i ≤ L + 1) → (n = lvM fr a se k lf i) → mx_V mX10_soFar mx_S0 1 0 0 6 [some (.ref m), some (.int (nI se)), some (.int (nI a)), some (.int x), some (.int (nI n)), some (.int (nI i))] [] G I (fun rv Gz Iz => rv = some (.int (nI (lvM fr a se k lf (L + 1)))) ∧ Gz = G ∧ Iz = I) (fun _ _ _ => False) := by
    intro fq
    induction fq with
    | zero => intro i n hfu; exact absurd hfu (Nat.not_lt_zero _)
    | succ fq ih =>
      intro i n hfu hi hn
      have J51 : ∀ (_ : Unit), (i ≤ L) → mx_V mX10_soFar mx_S0 1 0 0 51 [some (.ref m), some (.int (nI se)), some (.int (nI a)), some (.int x), some (.int (nI n)), some (.int (nI i))] [.int (nI (if se.testBit i = true ∧ fr (21 * a + i) + k = lf then 2 ^ i else 0)), .int (nI n)] G I (fun rv Gz Iz => rv = some (.int (nI (lvM fr a se k lf (L + 1)))) ∧ Gz = G ∧ Iz = I) (fun _ _ _ => False) := by
        intro _ hib
        refine mx_iorN dX10_soFar_51 ?_
        refine mx_istoreE (i := 4) (ls' := [some (.ref m), some (.int (nI se)), some (.int (nI a)), some (.int x), some (.int (nI (n ||| (if se.testBit i = true ∧ fr (21 * a + i) + k = lf then 2 ^ i else 0)))), some (.int (nI i))]) (hd := dX10_soFar_52) (hn := by decide) (hok := rfl) (hls := rfl) ?_
        refine mx_iincE (i := 5) (ls' := [some (.ref m), some (.int (nI se)), some (.int (nI a)), some (.int x), some (.int (nI (n ||| (if se.testBit i = true ∧ fr (21 * a + i) + k = lf then 2 ^ i else 0)))), some (.int (nI (i + 1)))]) 1 dX10_soFar_54 rfl (by decide) (by decide) rfl rfl ?_
        refine mx_goto (tgt := 6) dX10_soFar_57 (by decide) ?_
        exact ih (i + 1) _ (by omega) (by omega) (by rw [hn, lvM])
      refine mx_iload (i := 5) (hl := rfl) (hd := dX10_soFar_6) ?_
      refine mx_aload_n (i := 0) (hi := rfl) (hl := rfl) (hd := dX10_soFar_8) ?_
      refine mx_getV (ci := 10) (k := 11) (nI L) dX10_soFar_9 k_1024 (by decide) rfl (by assumption) h11 ?_
      refine mx_cmpN_gt 60 dX10_soFar_12 (by decide) (by omega) (by omega) (fun c12 => ?_) (fun c12 => ?_)
      · skip
        refine mx_iload (i := 4) (hl := rfl) (hd := dX10_soFar_60) ?_
        exact mx_iret dX10_soFar_62 rfl rfl (⟨by rw [hn, show i = L + 1 by omega], rfl, rfl⟩)
      · skip
        refine mx_iload (i := 4) (hl := rfl) (hd := dX10_soFar_15) ?_
        refine mx_iload_n (i := 1) (hi := rfl) (hl := rfl) (hd := dX10_soFar_17) ?_
        refine mx_iload (i := 5) (hl := rfl) (hd := dX10_soFar_18) ?_
        refine mx_ishrN dX10_soFar_20 (by omega) (by omega) ?_
        refine mx_iconstN 1 dX10_soFar_21 (by decide) ?_
        refine mx_iandN dX10_soFar_22 ?_
        refine mx_top (mx_bit _ _) ?_
        refine mx_iconstN 1 dX10_soFar_23 (by decide) ?_
        refine mx_icmp_ne (tgt := 50) dX10_soFar_24 (by decide) (fun c24 => ?_) (fun c24 => ?_)
        · skip
          have d24 : ¬ se.testBit i = true := fun q => c24 (mx_bT q).symm
          refine mx_iconstN 0 dX10_soFar_50 (by decide) ?_
          refine mx_top (y := nI (if se.testBit i = true ∧ fr (21 * a + i) + k = lf then 2 ^ i else 0)) (by rw [if_neg (by first | exact fun z => d24 z.1 | exact fun z => c40 ((hx _ (hfb _)).mpr z.2))]) ?_
          exact J51 () (by omega)
        · skip
          have d24 := mx_b1 c24
          refine mx_aload_n (i := 0) (hi := rfl) (hl := rfl) (hd := dX10_soFar_27) ?_
          refine mx_getR (ci := 10) (k := 24) (r := (m + 17)) dX10_soFar_28 k_1037 (by decide) rfl (by assumption) (by assumption) (by omega) ?_
          refine mx_bipushN 21 dX10_soFar_31 (by decide) ?_
          refine mx_iload_n (i := 2) (hi := rfl) (hl := rfl) (hd := dX10_soFar_33) ?_
          refine mx_imulN dX10_soFar_34 ?_
          refine mx_iload (i := 5) (hl := rfl) (hd := dX10_soFar_35) ?_
          refine mx_iaddN dX10_soFar_37 ?_
          refine mx_ialdV ((21 * a) + i) (nI (fr ((21 * a) + i))) dX10_soFar_38 (by assumption) ⟨rfl, by omega, by omega⟩ (har _ (by omega)) ?_
          refine mx_iload_n (i := 3) (hi := rfl) (hl := rfl) (hd := dX10_soFar_39) ?_
          refine mx_icmp_ne (tgt := 50) dX10_soFar_40 (by decide) (fun c40 => ?_) (fun c40 => ?_)
          · skip
            refine mx_iconstN 0 dX10_soFar_50 (by decide) ?_
            refine mx_top (y := nI (if se.testBit i = true ∧ fr (21 * a + i) + k = lf then 2 ^ i else 0)) (by rw [if_neg (by first | exact fun z => d24 z.1 | exact fun z => c40 ((hx _ (hfb _)).mpr z.2))]) ?_
            exact J51 () (by omega)
          · skip
            refine mx_iconstN 1 dX10_soFar_43 (by decide) ?_
            refine mx_iload (i := 5) (hl := rfl) (hd := dX10_soFar_44) ?_
            refine mx_ishl1N dX10_soFar_46 (by omega) ?_
            refine mx_goto (tgt := 51) dX10_soFar_47 (by decide) ?_
            refine mx_top (y := nI (if se.testBit i = true ∧ fr (21 * a + i) + k = lf then 2 ^ i else 0)) (by rw [if_pos ⟨d24, (hx _ (hfb _)).mp c40⟩]) ?_
            exact J51 () (by omega)
  refine mx_iconstN 0 dX10_soFar_0 (by decide) ?_
  refine mx_istoreE (i := 4) (ls' := [some (.ref m), some (.int (nI se)), some (.int (nI a)), some (.int x), some (.int (nI 0)), none]) (hd := dX10_soFar_1) (hn := by decide) (hok := rfl) (hls := rfl) ?_
  refine mx_iconstN 0 dX10_soFar_3 (by decide) ?_
  refine mx_istoreE (i := 5) (ls' := [some (.ref m), some (.int (nI se)), some (.int (nI a)), some (.int x), some (.int (nI 0)), some (.int (nI 0))]) (hd := dX10_soFar_4) (hn := by decide) (hok := rfl) (hls := rfl) ?_
  exact L6 _ 0 0 (Nat.lt_succ_self _) (Nat.zero_le _) rfl

set_option maxHeartbeats 4000000 in
set_option maxRecDepth 100000 in
theorem mt_reached (G : mx_G) (I : mx_I) (m : Nat) (hs : oMD G m) (g : Nat) (x : Vl) (hg34 : g = m + 3 ∨ g = m + 4) (htg : mx_tg G g = 1) (hlg : mx_ln G g = 143) (hv : vpF (I g) x) (p : Nat) (hp : p < 8) : mx_CTi yX10_reached mX10_reached 5 [.ref m, .ref g, .int (nI p)] G I (fun rv I1 => rv = some (.int (nI (rcM x.1 (vA x) (prM x.1 none) p (gP x.1)))) ∧ mS I I1 m) := by
  refine mx_start (k := 2) (by decide) rfl rfl (fun h => nomatch h) (Nat.le_of_ble_eq_true rfl) ?_
  show mx_V mX10_reached mx_S0 5 0 0 0 [some (.ref m), some (.ref g), some (.int (nI p)), none, none] [] G I (fun rv Gz Iz => (fun rv I1 => rv = some (.int (nI (rcM x.1 (vA x) (prM x.1 none) p (gP x.1)))) ∧ mS I I1 m) rv Iz ∧ Gz = G) (fun _ _ _ => False)
  have hs0 := hs
  have hv0 := hv
  have hgw := hv.1.1
  have tgm := hs.1
  have hwfP := wfP_vA hv.2.2.2
  have hP8 := hgw.1
  have heb : ∀ u, eb (bR x.1 (vA x) (prM x.1 none) (tgA (vA x) u) p 0) := fun u => bR_eb hgw hwfP (fun s hs => prM_9 hgw none s hs) hp (by decide)
  have L17 : ∀ (fq : Nat) (u n : Nat) (I1 : mx_I), gP x.1 - u < fq → (u ≤ gP x.1) → (n = rcM x.1 (vA x) (prM x.1 none) p u) → (auN I1 m (vA x)) → (∀ s, s < gN x.1 → I1 (m + 16) s = nI (prM x.1 none s)) → (gaF (I1 g) x.1) → (mS I I1 m) → mx_V mX10_reached mx_S0 5 0 0 17 [some (.ref m), some (.ref g), some (.int (nI p)), some (.int (nI n)), some (.int (nI u))] [] G I1 (fun rv Gz Iz => (fun rv I1 => rv = some (.int (nI (rcM x.1 (vA x) (prM x.1 none) p (gP x.1)))) ∧ mS I I1 m) rv Iz ∧ Gz = G) (fun _ _ _ => False) := by
    intro fq
    induction fq with
    | zero => intro u n I1 hfu; exact absurd hfu (Nat.not_lt_zero _)
    | succ fq ih =>
      intro u n I1 hfu hu hx haw hpw hgw1 hSw
      refine mx_iload (i := 4) (hl := rfl) (hd := dX10_reached_17) ?_
      refine mx_aload_n (i := 1) (hi := rfl) (hl := rfl) (hd := dX10_reached_19) ?_
      refine mx_iconstN 0 dX10_reached_20 (by decide) ?_
      refine mx_ialdV 0 (nI (gP x.1)) dX10_reached_21 (by assumption) ⟨rfl, by omega, by omega⟩ hgw1.2.1 ?_
      refine mx_cmpN_ge 55 dX10_reached_22 (by decide) (by omega) (by omega) (fun c22 => ?_) (fun c22 => ?_)
      · skip
        refine mx_iload_n (i := 3) (hi := rfl) (hl := rfl) (hd := dX10_reached_55) ?_
        exact mx_iret dX10_reached_56 rfl rfl (⟨⟨by rw [hx, show u = gP x.1 by omega], hSw⟩, rfl⟩)
      · skip
        refine mx_iload_n (i := 3) (hi := rfl) (hl := rfl) (hd := dX10_reached_25) ?_
        refine mx_aload_n (i := 0) (hi := rfl) (hl := rfl) (hd := dX10_reached_26) ?_
        refine mx_aload_n (i := 1) (hi := rfl) (hl := rfl) (hd := dX10_reached_27) ?_
        refine mx_iload_n (i := 2) (hi := rfl) (hl := rfl) (hd := dX10_reached_28) ?_
        refine mx_iload (i := 4) (hl := rfl) (hd := dX10_reached_29) ?_
        refine mx_callVi (ci := 10) (As := [.ref g, .int (nI p), .int (nI u)]) (rest := [.int (nI n)]) dX10_reached_31 (mt_best G I1 m hs0 (vA x) haw (auP_rdF _ _) hwfP g x.1 hg34 htg hlg hgw1 (prM x.1 none) (fun s hs => prM_9 hgw none s hs) hpw u (by omega) p hp) km_X10_best rfl k_1250 k_1252 k_48 (by assumption) rfl rfl (Nat.le_of_ble_eq_true rfl) (by decide) (fun r1 I4 h2 => ?_)
        obtain ⟨e9, q5, q6⟩ := h2
        subst e9
        refine mx_ldc (v := (100000000)) k_1222 dX10_reached_34 ?_
        refine mx_top (y := nI 100000000) (by decide) ?_
        refine mx_cmpN_ge 46 dX10_reached_36 (by decide) (en_31 (heb u)) (by decide) (fun c36 => ?_) (fun c36 => ?_)
        · skip
          refine mx_iconstN 0 dX10_reached_46 (by decide) ?_
          refine mx_iorN dX10_reached_47 ?_
          refine mx_istoreE_n (i := 3) (ls' := [some (.ref m), some (.ref g), some (.int (nI p)), some (.int (nI (n ||| 0))), some (.int (nI u))]) (hi := rfl) (hd := dX10_reached_48) (hn := by decide) (hok := rfl) (hls := rfl) ?_
          refine mx_iincE (i := 4) (ls' := [some (.ref m), some (.ref g), some (.int (nI p)), some (.int (nI (n ||| 0))), some (.int (nI (u + 1)))]) 1 dX10_reached_49 rfl (by decide) (by decide) rfl rfl ?_
          refine mx_goto (tgt := 17) dX10_reached_52 (by decide) ?_
          exact ih (u + 1) _ _ (by omega) (by omega) (by rw [hx, rcM, if_pos ((en_lt (heb u)).mp c36)]) q5.1 q5.2.1 (hgw1.c hgw.2.1 (fun k _ => q6.2.2 _ _ (by omega) (by omega) (by omega))) (hSw.tr q6.S)
        · skip
          refine mx_iconstN 1 dX10_reached_39 (by decide) ?_
          refine mx_iload (i := 4) (hl := rfl) (hd := dX10_reached_40) ?_
          refine mx_ishl1N dX10_reached_42 (by omega) ?_
          refine mx_goto (tgt := 47) dX10_reached_43 (by decide) ?_
          refine mx_iorN dX10_reached_47 ?_
          refine mx_istoreE_n (i := 3) (ls' := [some (.ref m), some (.ref g), some (.int (nI p)), some (.int (nI (n ||| (2 ^ u)))), some (.int (nI u))]) (hi := rfl) (hd := dX10_reached_48) (hn := by decide) (hok := rfl) (hls := rfl) ?_
          refine mx_iincE (i := 4) (ls' := [some (.ref m), some (.ref g), some (.int (nI p)), some (.int (nI (n ||| (2 ^ u)))), some (.int (nI (u + 1)))]) 1 dX10_reached_49 rfl (by decide) (by decide) rfl rfl ?_
          refine mx_goto (tgt := 17) dX10_reached_52 (by decide) ?_
          exact ih (u + 1) _ _ (by omega) (by omega) (by rw [hx, rcM, if_neg (fun z => c36 ((en_lt (heb u)).mpr z))]) q5.1 q5.2.1 (hgw1.c hgw.2.1 (fun k _ => q6.2.2 _ _ (by omega) (by omega) (by omega))) (hSw.tr q6.S)
  refine mx_aload_n (i := 0) (hi := rfl) (hl := rfl) (hd := dX10_reached_0) ?_
  refine mx_aload_n (i := 1) (hi := rfl) (hl := rfl) (hd := dX10_reached_1) ?_
  refine mx_callVi (ci := 10) (As := [.ref g]) (rest := []) dX10_reached_2 (mt_compileOf G I m hs0 g x hg34 htg hlg hv0) km_X10_compileOf rfl k_1198 k_1200 k_39 (by assumption) rfl rfl (Nat.le_of_ble_eq_true rfl) (by decide) (fun r3 I2 h4 => ?_)
  obtain ⟨e9, q1, q2⟩ := h4
  subst e9
  have hg2 : gaF (I2 g) x.1 := hv0.1.c hgw.2.1 (fun k _ => by rw [q2.1 g (by omega)])
  refine mx_aload_n (i := 0) (hi := rfl) (hl := rfl) (hd := dX10_reached_5) ?_
  refine mx_aload_n (i := 1) (hi := rfl) (hl := rfl) (hd := dX10_reached_6) ?_
  refine mx_bipush (v := (-9)) (by decide) dX10_reached_7 ?_
  refine mx_callVi (ci := 10) (As := [.ref g, .int (-9)]) (rest := []) dX10_reached_9 (mt_layPrices G I2 m hs0 g x.1 htg hlg hg2 (by omega) none (fun z hz => (nomatch hz))) km_X10_layPrices rfl k_1202 k_1204 k_40 (by assumption) rfl rfl (Nat.le_of_ble_eq_true rfl) (by decide) (fun r5 I3 h6 => ?_)
  obtain ⟨e9, q3, q4⟩ := h6
  subst e9
  have ha3 : auN I3 m (vA x) := q1.k (fun j _ _ => q4 _ _ (by omega)) (fun b k _ _ => q4 _ _ (by omega))
  have hg3 : gaF (I3 g) x.1 := hg2.c hgw.2.1 (fun k _ => q4 _ _ (by omega))
  have hS3 : mS I I3 m := q2.S.tr (mS.of (fun b k hb => q4 b k (by omega)))
  refine mx_iconstN 0 dX10_reached_12 (by decide) ?_
  refine mx_istoreE_n (i := 3) (ls' := [some (.ref m), some (.ref g), some (.int (nI p)), some (.int (nI 0)), none]) (hi := rfl) (hd := dX10_reached_13) (hn := by decide) (hok := rfl) (hls := rfl) ?_
  refine mx_iconstN 0 dX10_reached_14 (by decide) ?_
  refine mx_istoreE (i := 4) (ls' := [some (.ref m), some (.ref g), some (.int (nI p)), some (.int (nI 0)), some (.int (nI 0))]) (hd := dX10_reached_15) (hn := by decide) (hok := rfl) (hls := rfl) ?_
  exact L17 _ 0 0 _ (Nat.lt_succ_self _) (Nat.zero_le _) rfl ha3 q3 hg3 hS3

set_option maxHeartbeats 4000000 in
set_option maxRecDepth 100000 in
theorem mt_neededIn (G : mx_G) (I : mx_I) (m : Nat) (hs : oMD G m) (g : Nat) (x : Vl) (hg34 : g = m + 3 ∨ g = m + 4) (htg : mx_tg G g = 1) (hlg : mx_ln G g = 143) (hv : vpF (I g) x) (p q : Nat) (hp : p < 8) (hq : q < 8) : mx_CTi yX10_neededIn mX10_neededIn 6 [.ref m, .ref g, .int (nI p), .int (nI q)] G I (fun rv I1 => rv = some (.int (nI (if bR x.1 (vA x) (prM x.1 none) (tgA (vA x) q) p 0 = none then 0 else ndM x.1 (vA x) p q (gN x.1)))) ∧ mS I I1 m) := by
  refine mx_start (k := 3) (by decide) rfl rfl (fun h => nomatch h) (Nat.le_of_ble_eq_true rfl) ?_
  show mx_V mX10_neededIn mx_S0 6 0 0 0 [some (.ref m), some (.ref g), some (.int (nI p)), some (.int (nI q)), none, none, none] [] G I (fun rv Gz Iz => (fun rv I1 => rv = some (.int (nI (if bR x.1 (vA x) (prM x.1 none) (tgA (vA x) q) p 0 = none then 0 else ndM x.1 (vA x) p q (gN x.1)))) ∧ mS I I1 m) rv Iz ∧ Gz = G) (fun _ _ _ => False)
  have hs0 := hs
  have hv0 := hv
  have hgw := hv.1.1
  have tgm := hs.1
  have hwfP := wfP_vA hv.2.2.2
  have hN25 := hgw.2.1
  have heb : ∀ bt, eb (bR x.1 (vA x) (prM x.1 bt) (tgA (vA x) q) p 0) := fun bt => bR_eb hgw hwfP (fun s hs => prM_9 hgw bt s hs) hp (by decide)
  have L27 : ∀ (fq : Nat) (s n : Nat) (I1 : mx_I), gN x.1 - s < fq → (s ≤ gN x.1) → (¬ bR x.1 (vA x) (prM x.1 none) (tgA (vA x) q) p 0 = none → n = ndM x.1 (vA x) p q s) → (bR x.1 (vA x) (prM x.1 none) (tgA (vA x) q) p 0 = none → n = 0) → (vpF (I1 g) x) → (mS I I1 m) → mx_V mX10_neededIn mx_S0 6 0 0 27 [some (.ref m), some (.ref g), some (.int (nI p)), some (.int (nI q)), some (.int (nI n)), some (.int (mx_b (decide (¬ bR x.1 (vA x) (prM x.1 none) (tgA (vA x) q) p 0 = none)))), some (.int (nI s))] [] G I1 (fun rv Gz Iz => (fun rv I1 => rv = some (.int (nI (if bR x.1 (vA x) (prM x.1 none) (tgA (vA x) q) p 0 = none then 0 else ndM x.1 (vA x) p q (gN x.1)))) ∧ mS I I1 m) rv Iz ∧ Gz = G) (fun _ _ _ => False) := by
    intro fq
    induction fq with
    | zero => intro s n I1 hfu; exact absurd hfu (Nat.not_lt_zero _)
    | succ fq ih =>
      intro s n I1 hfu hs2 hx1 hx0 hv1 hSw
      refine mx_iload (i := 6) (hl := rfl) (hd := dX10_neededIn_27) ?_
      refine mx_aload_n (i := 1) (hi := rfl) (hl := rfl) (hd := dX10_neededIn_29) ?_
      refine mx_iconstN 1 dX10_neededIn_30 (by decide) ?_
      refine mx_ialdV 1 (nI (gN x.1)) dX10_neededIn_31 (by assumption) ⟨rfl, by omega, by omega⟩ hv1.1.2.2.1 ?_
      refine mx_cmpN_ge 73 dX10_neededIn_32 (by decide) (by omega) (by omega) (fun c32 => ?_) (fun c32 => ?_)
      · skip
        refine mx_iload (i := 4) (hl := rfl) (hd := dX10_neededIn_73) ?_
        exact mx_iret dX10_neededIn_75 rfl rfl (⟨⟨by first | (rw [if_pos (Classical.not_not.mp c37), hx0 (Classical.not_not.mp c37)]) | (by_cases z9 : bR x.1 (vA x) (prM x.1 none) (tgA (vA x) q) p 0 = none; (rw [if_pos z9, hx0 z9]); (rw [if_neg z9, hx1 z9, show s = gN x.1 by omega])), hSw⟩, rfl⟩)
      · skip
        refine mx_iload (i := 5) (hl := rfl) (hd := dX10_neededIn_35) ?_
        refine mx_ifB_eq 73 dX10_neededIn_37 (by decide) (fun c37 => ?_) (fun c37 => ?_)
        · skip
          refine mx_iload (i := 4) (hl := rfl) (hd := dX10_neededIn_73) ?_
          exact mx_iret dX10_neededIn_75 rfl rfl (⟨⟨by first | (rw [if_pos (Classical.not_not.mp c37), hx0 (Classical.not_not.mp c37)]) | (by_cases z9 : bR x.1 (vA x) (prM x.1 none) (tgA (vA x) q) p 0 = none; (rw [if_pos z9, hx0 z9]); (rw [if_neg z9, hx1 z9, show s = gN x.1 by omega])), hSw⟩, rfl⟩)
        · skip
          refine mx_iload (i := 4) (hl := rfl) (hd := dX10_neededIn_40) ?_
          refine mx_aload_n (i := 0) (hi := rfl) (hl := rfl) (hd := dX10_neededIn_42) ?_
          refine mx_aload_n (i := 1) (hi := rfl) (hl := rfl) (hd := dX10_neededIn_43) ?_
          refine mx_iload_n (i := 2) (hi := rfl) (hl := rfl) (hd := dX10_neededIn_44) ?_
          refine mx_iload_n (i := 3) (hi := rfl) (hl := rfl) (hd := dX10_neededIn_45) ?_
          refine mx_iload (i := 6) (hl := rfl) (hd := dX10_neededIn_46) ?_
          refine mx_callVi (ci := 10) (As := [.ref g, .int (nI p), .int (nI q), .int (nI s)]) (rest := [.int (nI n)]) dX10_neededIn_48 (mt_bestOf G I1 m hs0 g x hg34 htg hlg hv1 p q hp hq (some s) (fun z hz => by cases hz; omega)) km_X10_bestOf rfl k_1355 k_1357 k_55 (by assumption) rfl rfl (Nat.le_of_ble_eq_true rfl) (by decide) (fun r1 I4 h2 => ?_)
          obtain ⟨e9, q5, q6⟩ := h2
          subst e9
          refine mx_ldc (v := (100000000)) k_1222 dX10_neededIn_51 ?_
          refine mx_top (y := nI 100000000) (by decide) ?_
          refine mx_cmpN_ge 60 dX10_neededIn_53 (by decide) (en_31 (heb (some s))) (by decide) (fun c53 => ?_) (fun c53 => ?_)
          · skip
            refine mx_iconstN 1 dX10_neededIn_60 (by decide) ?_
            refine mx_iload (i := 6) (hl := rfl) (hd := dX10_neededIn_61) ?_
            refine mx_ishl1N dX10_neededIn_63 (by omega) ?_
            refine mx_iorN dX10_neededIn_64 ?_
            refine mx_istoreE (i := 4) (ls' := [some (.ref m), some (.ref g), some (.int (nI p)), some (.int (nI q)), some (.int (nI (n ||| (2 ^ s)))), some (.int (mx_b (decide (¬ bR x.1 (vA x) (prM x.1 none) (tgA (vA x) q) p 0 = none)))), some (.int (nI s))]) (hd := dX10_neededIn_65) (hn := by decide) (hok := rfl) (hls := rfl) ?_
            refine mx_iincE (i := 6) (ls' := [some (.ref m), some (.ref g), some (.int (nI p)), some (.int (nI q)), some (.int (nI (n ||| (2 ^ s)))), some (.int (mx_b (decide (¬ bR x.1 (vA x) (prM x.1 none) (tgA (vA x) q) p 0 = none)))), some (.int (nI (s + 1)))]) 1 dX10_neededIn_67 rfl (by decide) (by decide) rfl rfl ?_
            refine mx_goto (tgt := 27) dX10_neededIn_70 (by decide) ?_
            exact ih (s + 1) _ _ (by omega) (by omega) (fun z => by rw [hx1 z, ndM, if_pos ((en_lt (heb (some s))).mp c53)]) (fun z => absurd z c37) (hv1.c (fun k _ => by rw [q6.1 g (by omega)])) (hSw.tr q6)
          · skip
            refine mx_iconstN 0 dX10_neededIn_56 (by decide) ?_
            refine mx_goto (tgt := 64) dX10_neededIn_57 (by decide) ?_
            refine mx_iorN dX10_neededIn_64 ?_
            refine mx_istoreE (i := 4) (ls' := [some (.ref m), some (.ref g), some (.int (nI p)), some (.int (nI q)), some (.int (nI (n ||| 0))), some (.int (mx_b (decide (¬ bR x.1 (vA x) (prM x.1 none) (tgA (vA x) q) p 0 = none)))), some (.int (nI s))]) (hd := dX10_neededIn_65) (hn := by decide) (hok := rfl) (hls := rfl) ?_
            refine mx_iincE (i := 6) (ls' := [some (.ref m), some (.ref g), some (.int (nI p)), some (.int (nI q)), some (.int (nI (n ||| 0))), some (.int (mx_b (decide (¬ bR x.1 (vA x) (prM x.1 none) (tgA (vA x) q) p 0 = none)))), some (.int (nI (s + 1)))]) 1 dX10_neededIn_67 rfl (by decide) (by decide) rfl rfl ?_
            refine mx_goto (tgt := 27) dX10_neededIn_70 (by decide) ?_
            exact ih (s + 1) _ _ (by omega) (by omega) (fun z => by rw [hx1 z, ndM, if_neg (fun z => c53 ((en_lt (heb (some s))).mpr z))]) (fun z => absurd z c37) (hv1.c (fun k _ => by rw [q6.1 g (by omega)])) (hSw.tr q6)
  refine mx_iconstN 0 dX10_neededIn_0 (by decide) ?_
  refine mx_istoreE (i := 4) (ls' := [some (.ref m), some (.ref g), some (.int (nI p)), some (.int (nI q)), some (.int (nI 0)), none, none]) (hd := dX10_neededIn_1) (hn := by decide) (hok := rfl) (hls := rfl) ?_
  refine mx_aload_n (i := 0) (hi := rfl) (hl := rfl) (hd := dX10_neededIn_3) ?_
  refine mx_aload_n (i := 1) (hi := rfl) (hl := rfl) (hd := dX10_neededIn_4) ?_
  refine mx_iload_n (i := 2) (hi := rfl) (hl := rfl) (hd := dX10_neededIn_5) ?_
  refine mx_iload_n (i := 3) (hi := rfl) (hl := rfl) (hd := dX10_neededIn_6) ?_
  refine mx_bipush (v := (-9)) (by decide) dX10_neededIn_7 ?_
  refine mx_callVi (ci := 10) (As := [.ref g, .int (nI p), .int (nI q), .int (-9)]) (rest := []) dX10_neededIn_9 (mt_bestOf G I m hs0 g x hg34 htg hlg hv0 p q hp hq none (fun z hz => (nomatch hz))) km_X10_bestOf rfl k_1355 k_1357 k_55 (by assumption) rfl rfl (Nat.le_of_ble_eq_true rfl) (by decide) (fun r3 I2 h4 => ?_)
  obtain ⟨e9, q1, q2⟩ := h4
  subst e9
  have hv2 : vpF (I2 g) x := hv0.c (fun k _ => by rw [q2.1 g (by omega)])
  refine mx_ldc (v := (100000000)) k_1222 dX10_neededIn_12 ?_
  refine mx_top (y := nI 100000000) (by decide) ?_
  refine mx_cmpN_ge 21 dX10_neededIn_14 (by decide) (en_31 (heb none)) (by decide) (fun c14 => ?_) (fun c14 => ?_)
  · skip
    refine mx_iconstN 0 dX10_neededIn_21 (by decide) ?_
    refine mx_top (y := mx_b (decide (¬ bR x.1 (vA x) (prM x.1 none) (tgA (vA x) q) p 0 = none))) (mx_bF (fun z => z ((en_lt (heb none)).mp c14))) ?_
    refine mx_istoreE (i := 5) (ls' := [some (.ref m), some (.ref g), some (.int (nI p)), some (.int (nI q)), some (.int (nI 0)), some (.int (mx_b (decide (¬ bR x.1 (vA x) (prM x.1 none) (tgA (vA x) q) p 0 = none)))), none]) (hd := dX10_neededIn_22) (hn := by decide) (hok := rfl) (hls := rfl) ?_
    refine mx_iconstN 0 dX10_neededIn_24 (by decide) ?_
    refine mx_istoreE (i := 6) (ls' := [some (.ref m), some (.ref g), some (.int (nI p)), some (.int (nI q)), some (.int (nI 0)), some (.int (mx_b (decide (¬ bR x.1 (vA x) (prM x.1 none) (tgA (vA x) q) p 0 = none)))), some (.int (nI 0))]) (hd := dX10_neededIn_25) (hn := by decide) (hok := rfl) (hls := rfl) ?_
    exact L27 _ 0 0 _ (Nat.lt_succ_self _) (Nat.zero_le _) (fun _ => rfl) (fun _ => rfl) hv2 q2
  · skip
    refine mx_iconstN 1 dX10_neededIn_17 (by decide) ?_
    refine mx_goto (tgt := 22) dX10_neededIn_18 (by decide) ?_
    refine mx_top (y := mx_b (decide (¬ bR x.1 (vA x) (prM x.1 none) (tgA (vA x) q) p 0 = none))) (mx_bT (fun z => c14 ((en_lt (heb none)).mpr z))) ?_
    refine mx_istoreE (i := 5) (ls' := [some (.ref m), some (.ref g), some (.int (nI p)), some (.int (nI q)), some (.int (nI 0)), some (.int (mx_b (decide (¬ bR x.1 (vA x) (prM x.1 none) (tgA (vA x) q) p 0 = none)))), none]) (hd := dX10_neededIn_22) (hn := by decide) (hok := rfl) (hls := rfl) ?_
    refine mx_iconstN 0 dX10_neededIn_24 (by decide) ?_
    refine mx_istoreE (i := 6) (ls' := [some (.ref m), some (.ref g), some (.int (nI p)), some (.int (nI q)), some (.int (nI 0)), some (.int (mx_b (decide (¬ bR x.1 (vA x) (prM x.1 none) (tgA (vA x) q) p 0 = none)))), some (.int (nI 0))]) (hd := dX10_neededIn_25) (hn := by decide) (hok := rfl) (hls := rfl) ?_
    exact L27 _ 0 0 _ (Nat.lt_succ_self _) (Nat.zero_le _) (fun _ => rfl) (fun _ => rfl) hv2 q2

theorem en_2000 {x : Option (Nat × Nat)} (h : eb x) (hx : ¬ x = none) : enM x / 1000 < 2000 := by
  cases x with
  | none => exact absurd rfl hx
  | some y =>
    have := h y rfl
    show (1000 * y.1 + y.2) / 1000 < 2000
    omega

set_option maxHeartbeats 2000000 in
set_option maxRecDepth 100000 in
theorem mt_layPairs (G : mx_G) (I : mx_I) (m : Nat) (hs : oMD G m) (A : Pa) (ha : auN I m A) (hA : auP A) (hwp : wfP A) (g : Nat) (v : Gr) (hg34 : g = m + 3 ∨ g = m + 4) (htg : mx_tg G g = 1) (hlg : mx_ln G g = 143) (hg : gaF (I g) v) (pr : Nat → Nat) (hpr9 : ∀ s, s < gN v → pr s ≤ 9) (hprs : ∀ s, s < gN v → I (m + 16) s = nI (pr s)) : mx_CTi yX10_layPairs mX10_layPairs 4 [.ref m, .ref g] G I (fun rv I1 => rv = none ∧ I1 m 27 = nI (lpO v A pr (gP v)).1 ∧ I1 m 28 = oI (lpO v A pr (gP v)).2 ∧ auN I1 m A ∧ mS I I1 m) := by
  refine mx_start (k := 3) (by decide) rfl rfl (fun h => nomatch h) (Nat.le_of_ble_eq_true rfl) ?_
  show mx_V mX10_layPairs mx_S0 4 0 0 0 [some (.ref m), some (.ref g), none, none, none] [] G I (fun rv Gz Iz => (fun rv I1 => rv = none ∧ I1 m 27 = nI (lpO v A pr (gP v)).1 ∧ I1 m 28 = oI (lpO v A pr (gP v)).2 ∧ auN I1 m A ∧ mS I I1 m) rv Iz ∧ Gz = G) (fun _ _ _ => False)
  have hs0 := hs
  have hgwN := hg.1.2.1
  have hP8 := hg.1.1
  have heb : ∀ q p, p < 8 → eb (bR v A pr (tgA A q) p 0) := fun q p hp => bR_eb hg.1 hwp hpr9 hp (by decide)
  obtain ⟨tgm, -, -, -, -, -, -, -, -, -, -, -, -, -, -, -, -, ⟨r_far, t_far, l_far⟩, -⟩ := hs
  have L13 : ∀ (fq : Nat) (u : Nat) (I1 : mx_I), gP v - u < fq → (u ≤ gP v) → (I1 m 27 = nI (lpO v A pr u).1) → (I1 m 28 = oI (lpO v A pr u).2) → (auN I1 m A) → (∀ s, s < gN v → I1 (m + 16) s = nI (pr s)) → (gaF (I1 g) v) → (mS I I1 m) → mx_V mX10_layPairs mx_S0 4 0 0 13 [some (.ref m), some (.ref g), some (.int (nI u)), none, none] [] G I1 (fun rv Gz Iz => (fun rv I1 => rv = none ∧ I1 m 27 = nI (lpO v A pr (gP v)).1 ∧ I1 m 28 = oI (lpO v A pr (gP v)).2 ∧ auN I1 m A ∧ mS I I1 m) rv Iz ∧ Gz = G) (fun _ _ _ => False) := by
    intro fq
    induction fq with
    | zero => intro u I1 hfu; exact absurd hfu (Nat.not_lt_zero _)
    | succ fq ih =>
      intro u I1 hfu hu h27 h28 haw hpw hgw1 hSw
      have L28 : ∀ (fq : Nat) (p : Nat) (fr : Nat → Nat) (I2 : mx_I), gP v - p < fq → (u < gP v) → (p ≤ gP v) → (I2 m 27 = nI (lpI v A pr u p (lpO v A pr u)).1) → (I2 m 28 = oI (lpI v A pr u p (lpO v A pr u)).2) → (auN I2 m A) → (∀ s, s < gN v → I2 (m + 16) s = nI (pr s)) → (gaF (I2 g) v) → (mS I I2 m) → (arN I2 (m + 17) fr 168) → (∀ a i, a < 8 → i < 21 → fr (21 * a + i) = enM (bR v A pr (tgA A u) a i)) → mx_V mX10_layPairs mx_S0 4 0 0 28 [some (.ref m), some (.ref g), some (.int (nI u)), some (.int (nI p)), none] [] G I2 (fun rv Gz Iz => (fun rv I1 => rv = none ∧ I1 m 27 = nI (lpO v A pr (gP v)).1 ∧ I1 m 28 = oI (lpO v A pr (gP v)).2 ∧ auN I1 m A ∧ mS I I1 m) rv Iz ∧ Gz = G) (fun _ _ _ => False) := by
        intro fq
        induction fq with
        | zero => intro p fr I2 hfu; exact absurd hfu (Nat.not_lt_zero _)
        | succ fq ih2 =>
          intro p fr I2 hfu hub hp h27 h28 haw hpw hgw1 hSw hfr1 hfr2
          have hlt9 := lpI_lt (heb u) (lpO_lt heb hP8 u) p (by omega)
          have J90 : ∀ (_ : Unit), (p < gP v) → (¬ 100000000 ≤ enM (bR v A pr (tgA A u) p 0)) → mx_V mX10_layPairs mx_S0 4 0 0 90 [some (.ref m), some (.ref g), some (.int (nI u)), some (.int (nI p)), some (.int (nI (enM (bR v A pr (tgA A u) p 0))))] [.int (oI (omx (lpI v A pr u p (lpO v A pr u)).2 (some (enM (bR v A pr (tgA A u) p 0) / 1000)))), .ref m] G (mx_u I2 m 27 (nI ((lpI v A pr u p (lpO v A pr u)).1 + 1))) (fun rv Gz Iz => (fun rv I1 => rv = none ∧ I1 m 27 = nI (lpO v A pr (gP v)).1 ∧ I1 m 28 = oI (lpO v A pr (gP v)).2 ∧ auN I1 m A ∧ mS I I1 m) rv Iz ∧ Gz = G) (fun _ _ _ => False) := by
            intro _ hpb c50
            refine mx_putI (ci := 10) (k := 28) dX10_layPairs_90 k_1041 (by decide) rfl rfl rfl rfl (by assumption) ?_
            refine mx_iincE (i := 3) (ls' := [some (.ref m), some (.ref g), some (.int (nI u)), some (.int (nI (p + 1))), some (.int (nI (enM (bR v A pr (tgA A u) p 0))))]) 1 dX10_layPairs_93 rfl (by decide) (by decide) rfl rfl ?_
            refine mx_goto (tgt := 28) dX10_layPairs_96 (by decide) ?_
            refine mx_leS (ls' := [some (.ref m), some (.ref g), some (.int (nI u)), some (.int (nI (p + 1))), none]) ⟨rfl, rfl, rfl, rfl, trivial⟩ ?_
            exact ih2 (p + 1) fr _ (by omega) hub (by omega) (by rw [lpI_s1 (heb u p (by omega)) (fun z => c50 ((en_lt (heb u p (by omega))).mpr z)), mx_u_at, if_neg (by omega), mx_u_at, if_pos ⟨rfl, rfl⟩]) (by rw [lpI_s1 (heb u p (by omega)) (fun z => c50 ((en_lt (heb u p (by omega))).mpr z)), mx_u_at, if_pos ⟨rfl, rfl⟩]) (haw.k (fun j h1 h2 => by rw [mx_u_at, if_neg (by omega), mx_u_at, if_neg (by omega)]) (fun b k h1 h2 => by rw [mx_u_at, if_neg (by omega), mx_u_at, if_neg (by omega)])) (fun s hs => by rw [mx_u_at, if_neg (by omega), mx_u_at, if_neg (by omega)]; exact hpw s hs) (hgw1.c hgwN (fun k _ => by rw [mx_u_at, if_neg (by omega), mx_u_at, if_neg (by omega)])) ⟨fun b hb => by funext k; rw [mx_u_at, if_neg (by omega), mx_u_at, if_neg (by omega), hSw.1 b hb], fun j hj => by rw [mx_u_at, if_neg (by omega), mx_u_at, if_neg (by omega), hSw.2 j hj]⟩ ((hfr1.o (by omega)).o (by omega)) hfr2
          refine mx_iload_n (i := 3) (hi := rfl) (hl := rfl) (hd := dX10_layPairs_28) ?_
          refine mx_aload_n (i := 1) (hi := rfl) (hl := rfl) (hd := dX10_layPairs_29) ?_
          refine mx_iconstN 0 dX10_layPairs_30 (by decide) ?_
          refine mx_ialdV 0 (nI (gP v)) dX10_layPairs_31 (by assumption) ⟨rfl, by omega, by omega⟩ hgw1.2.1 ?_
          refine mx_cmpN_ge 99 dX10_layPairs_32 (by decide) (by omega) (by omega) (fun c32 => ?_) (fun c32 => ?_)
          · skip
            refine mx_iincE (i := 2) (ls' := [some (.ref m), some (.ref g), some (.int (nI (u + 1))), some (.int (nI p)), none]) 1 dX10_layPairs_99 rfl (by decide) (by decide) rfl rfl ?_
            refine mx_goto (tgt := 13) dX10_layPairs_102 (by decide) ?_
            refine mx_leS (ls' := [some (.ref m), some (.ref g), some (.int (nI (u + 1))), none, none]) ⟨rfl, rfl, rfl, trivial⟩ ?_
            exact ih (u + 1) _ (by omega) (by omega) (by rw [h27, show p = gP v by omega]; rfl) (by rw [h28, show p = gP v by omega]; rfl) haw hpw hgw1 hSw
          · skip
            refine mx_aload_n (i := 0) (hi := rfl) (hl := rfl) (hd := dX10_layPairs_35) ?_
            refine mx_getR (ci := 10) (k := 24) (r := (m + 17)) dX10_layPairs_36 k_1037 (by decide) rfl (by assumption) (by assumption) (by omega) ?_
            refine mx_bipushN 21 dX10_layPairs_39 (by decide) ?_
            refine mx_iload_n (i := 3) (hi := rfl) (hl := rfl) (hd := dX10_layPairs_41) ?_
            refine mx_imulN dX10_layPairs_42 ?_
            refine mx_ialdV (21 * p) (nI (enM (bR v A pr (tgA A u) p 0))) dX10_layPairs_43 (by assumption) ⟨rfl, by omega, by omega⟩ ((hfr1 (21 * p) (by omega)).trans (congrArg nI (hfr2 p 0 (by omega) (by decide)))) ?_
            refine mx_istoreE (i := 4) (ls' := [some (.ref m), some (.ref g), some (.int (nI u)), some (.int (nI p)), some (.int (nI (enM (bR v A pr (tgA A u) p 0))))]) (hd := dX10_layPairs_44) (hn := by decide) (hok := rfl) (hls := rfl) ?_
            refine mx_iload (i := 4) (hl := rfl) (hd := dX10_layPairs_46) ?_
            refine mx_ldc (v := (100000000)) k_1222 dX10_layPairs_48 ?_
            refine mx_top (y := nI 100000000) (by decide) ?_
            refine mx_cmpN_ge 93 dX10_layPairs_50 (by decide) (en_31 (heb u p (by omega))) (by decide) (fun c50 => ?_) (fun c50 => ?_)
            · skip
              refine mx_iincE (i := 3) (ls' := [some (.ref m), some (.ref g), some (.int (nI u)), some (.int (nI (p + 1))), some (.int (nI (enM (bR v A pr (tgA A u) p 0))))]) 1 dX10_layPairs_93 rfl (by decide) (by decide) rfl rfl ?_
              refine mx_goto (tgt := 28) dX10_layPairs_96 (by decide) ?_
              refine mx_leS (ls' := [some (.ref m), some (.ref g), some (.int (nI u)), some (.int (nI (p + 1))), none]) ⟨rfl, rfl, rfl, rfl, trivial⟩ ?_
              exact ih2 (p + 1) fr _ (by omega) hub (by omega) (by rw [lpI_s0 ((en_lt (heb u p (by omega))).mp c50)]; exact h27) (by rw [lpI_s0 ((en_lt (heb u p (by omega))).mp c50)]; exact h28) haw hpw hgw1 hSw hfr1 hfr2
            · skip
              refine mx_aload_n (i := 0) (hi := rfl) (hl := rfl) (hd := dX10_layPairs_53) ?_
              refine mx_dup (hva := rfl) (hd := dX10_layPairs_54) ?_
              refine mx_getV (ci := 10) (k := 27) (nI ((lpI v A pr u p (lpO v A pr u)).1)) dX10_layPairs_55 k_1040 (by decide) rfl (by assumption) h27 ?_
              refine mx_iconstN 1 dX10_layPairs_58 (by decide) ?_
              refine mx_iaddN dX10_layPairs_59 ?_
              refine mx_putI (ci := 10) (k := 27) dX10_layPairs_60 k_1040 (by decide) rfl rfl rfl rfl (by assumption) ?_
              refine mx_aload_n (i := 0) (hi := rfl) (hl := rfl) (hd := dX10_layPairs_63) ?_
              refine mx_iload (i := 4) (hl := rfl) (hd := dX10_layPairs_64) ?_
              refine mx_sipushN 1000 dX10_layPairs_66 (by decide) ?_
              refine mx_idivN dX10_layPairs_69 (en_31 (heb u p (by omega))) (by decide) ?_
              refine mx_aload_n (i := 0) (hi := rfl) (hl := rfl) (hd := dX10_layPairs_70) ?_
              refine mx_getV (ci := 10) (k := 28) (oI (lpI v A pr u p (lpO v A pr u)).2 : Int32) dX10_layPairs_71 k_1041 (by decide) rfl (by assumption) (by rw [mx_u_at, if_neg (by omega)]; exact h28) ?_
              refine mx_cmpNR_le 86 dX10_layPairs_74 (by decide) (Nat.lt_trans (en_2000 (heb u p (by omega)) (fun z => c50 ((en_lt (heb u p (by omega))).mpr z))) (by decide)) (fun c74 => ?_) (fun c74 => ?_)
              · skip
                refine mx_aload_n (i := 0) (hi := rfl) (hl := rfl) (hd := dX10_layPairs_86) ?_
                refine mx_getV (ci := 10) (k := 28) (oI (lpI v A pr u p (lpO v A pr u)).2 : Int32) dX10_layPairs_87 k_1041 (by decide) rfl (by assumption) (by rw [mx_u_at, if_neg (by omega)]; exact h28) ?_
                refine mx_top (y := oI (omx (lpI v A pr u p (lpO v A pr u)).2 (some (enM (bR v A pr (tgA A u) p 0) / 1000)))) (gr_2 hlt9 (en_2000 (heb u p (by omega)) (fun z => c50 ((en_lt (heb u p (by omega))).mpr z))) c74) ?_
                exact J90 () (by omega) c50
              · skip
                refine mx_iload (i := 4) (hl := rfl) (hd := dX10_layPairs_77) ?_
                refine mx_sipushN 1000 dX10_layPairs_79 (by decide) ?_
                refine mx_idivN dX10_layPairs_82 (en_31 (heb u p (by omega))) (by decide) ?_
                refine mx_goto (tgt := 90) dX10_layPairs_83 (by decide) ?_
                refine mx_top (y := oI (omx (lpI v A pr u p (lpO v A pr u)).2 (some (enM (bR v A pr (tgA A u) p 0) / 1000)))) (gr_1 hlt9 (en_2000 (heb u p (by omega)) (fun z => c50 ((en_lt (heb u p (by omega))).mpr z))) c74) ?_
                exact J90 () (by omega) c50
      refine mx_iload_n (i := 2) (hi := rfl) (hl := rfl) (hd := dX10_layPairs_13) ?_
      refine mx_aload_n (i := 1) (hi := rfl) (hl := rfl) (hd := dX10_layPairs_14) ?_
      refine mx_iconstN 0 dX10_layPairs_15 (by decide) ?_
      refine mx_ialdV 0 (nI (gP v)) dX10_layPairs_16 (by assumption) ⟨rfl, by omega, by omega⟩ hgw1.2.1 ?_
      refine mx_cmpN_ge 105 dX10_layPairs_17 (by decide) (by omega) (by omega) (fun c17 => ?_) (fun c17 => ?_)
      · skip
        exact mx_vret dX10_layPairs_105 rfl (⟨⟨rfl, by rw [h27, show u = gP v by omega], by rw [h28, show u = gP v by omega], haw, hSw⟩, rfl⟩)
      · skip
        refine mx_aload_n (i := 0) (hi := rfl) (hl := rfl) (hd := dX10_layPairs_20) ?_
        refine mx_aload_n (i := 1) (hi := rfl) (hl := rfl) (hd := dX10_layPairs_21) ?_
        refine mx_iload_n (i := 2) (hi := rfl) (hl := rfl) (hd := dX10_layPairs_22) ?_
        refine mx_callVi (ci := 10) (As := [.ref g, .int (nI u)]) (rest := []) dX10_layPairs_23 (mt_layFar G I1 m hs0 A haw hA hwp g v hg34 htg hlg hgw1 pr hpr9 hpw u (by omega)) km_X10_layFar rfl k_1210 k_1212 k_42 (by assumption) rfl rfl (Nat.le_of_ble_eq_true rfl) (by decide) (fun r1 I3 h2 => ?_)
        obtain ⟨e9, ⟨fr, z1, z2⟩, z3⟩ := h2
        subst e9
        refine mx_iconstN 0 dX10_layPairs_26 (by decide) ?_
        refine mx_istoreE_n (i := 3) (ls' := [some (.ref m), some (.ref g), some (.int (nI u)), some (.int (nI 0)), none]) (hi := rfl) (hd := dX10_layPairs_27) (hn := by decide) (hok := rfl) (hls := rfl) ?_
        exact L28 _ 0 fr _ (Nat.lt_succ_self _) (by omega) (Nat.zero_le _) (by rw [z3.2.2 _ _ (by omega) (by omega) (by omega)]; exact h27) (by rw [z3.2.2 _ _ (by omega) (by omega) (by omega)]; exact h28) (z3.au haw) (fun s hs => by rw [z3.2.2 _ _ (by omega) (by omega) (by omega)]; exact hpw s hs) (hgw1.c hgwN (fun k _ => z3.2.2 _ _ (by omega) (by omega) (by omega))) (hSw.tr z3.S) z1 z2
  refine mx_aload_n (i := 0) (hi := rfl) (hl := rfl) (hd := dX10_layPairs_0) ?_
  refine mx_iconstN 0 dX10_layPairs_1 (by decide) ?_
  refine mx_putI (ci := 10) (k := 27) dX10_layPairs_2 k_1040 (by decide) rfl rfl rfl rfl (by assumption) ?_
  refine mx_aload_n (i := 0) (hi := rfl) (hl := rfl) (hd := dX10_layPairs_5) ?_
  refine mx_bipush (v := (-9)) (by decide) dX10_layPairs_6 ?_
  refine mx_putI (ci := 10) (k := 28) dX10_layPairs_8 k_1041 (by decide) rfl rfl rfl rfl (by assumption) ?_
  refine mx_iconstN 0 dX10_layPairs_11 (by decide) ?_
  refine mx_istoreE_n (i := 2) (ls' := [some (.ref m), some (.ref g), some (.int (nI 0)), none, none]) (hi := rfl) (hd := dX10_layPairs_12) (hn := by decide) (hok := rfl) (hls := rfl) ?_
  exact L13 _ 0 _ (Nat.lt_succ_self _) (Nat.zero_le _) (by rw [mx_u_at, if_neg (by omega), mx_u_at, if_pos ⟨rfl, rfl⟩]; rfl) (by rw [mx_u_at, if_pos ⟨rfl, rfl⟩]; rfl) (ha.k (fun j h1 h2 => by rw [mx_u_at, if_neg (by omega), mx_u_at, if_neg (by omega)]) (fun b k h1 h2 => by rw [mx_u_at, if_neg (by omega), mx_u_at, if_neg (by omega)])) (fun s hs => by rw [mx_u_at, if_neg (by omega), mx_u_at, if_neg (by omega)]; exact hprs s hs) (hg.c hgwN (fun k _ => by rw [mx_u_at, if_neg (by omega), mx_u_at, if_neg (by omega)])) ⟨fun b hb => by funext k; rw [mx_u_at, if_neg (by omega), mx_u_at, if_neg (by omega)], fun j hj => by rw [mx_u_at, if_neg (by omega), mx_u_at, if_neg (by omega)]⟩
