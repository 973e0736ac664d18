/-! THE METHODS OF StepPaths: paths, take, undo, the slots -/
set_option maxHeartbeats 4000000 in
set_option maxRecDepth 100000 in
theorem ct_isSlot (G : mx_G) (I : mx_I) (p : Int32) : mx_CTp yX9_isSlot mX9_isSlot 1 [.int p] G I (some (.int (mx_b (decide (0 ≤ p.toInt ∧ p.toInt < 2))))) := by
  refine mx_start (k := 0) (by decide) rfl rfl (fun h => nomatch h) (Nat.le_of_ble_eq_true rfl) ?_
  show mx_V mX9_isSlot mx_S0 1 0 0 0 [some (.int p)] [] G I (fun rv Gz Iz => rv = some (.int (mx_b (decide (0 ≤ p.toInt ∧ p.toInt < 2)))) ∧ Gz = G ∧ Iz = I) (fun _ _ _ => False)
  refine mx_iload_n (i := 0) (hi := rfl) (hl := rfl) (hd := dX9_isSlot_0) ?_
  refine mx_ifR_lt 13 dX9_isSlot_1 (by decide) (fun c1 => ?_) (fun c1 => ?_)
  · skip
    refine mx_iconstN 0 dX9_isSlot_13 (by decide) ?_
    exact mx_iret dX9_isSlot_14 rfl (by decide) (⟨congrArg (fun z => some (Value.int z)) (mx_bF (by omega)), rfl, rfl⟩)
  · skip
    refine mx_iload_n (i := 0) (hi := rfl) (hl := rfl) (hd := dX9_isSlot_4) ?_
    refine mx_iconstN 2 dX9_isSlot_5 (by decide) ?_
    refine mx_cmpRN_ge 13 dX9_isSlot_6 (by decide) (by omega) (fun c6 => ?_) (fun c6 => ?_)
    · skip
      refine mx_iconstN 0 dX9_isSlot_13 (by decide) ?_
      exact mx_iret dX9_isSlot_14 rfl (by decide) (⟨congrArg (fun z => some (Value.int z)) (mx_bF (by omega)), rfl, rfl⟩)
    · skip
      refine mx_iconstN 1 dX9_isSlot_9 (by decide) ?_
      refine mx_goto (tgt := 14) dX9_isSlot_10 (by decide) ?_
      exact mx_iret dX9_isSlot_14 rfl (by decide) (⟨congrArg (fun z => some (Value.int z)) (mx_bT (by omega)), rfl, rfl⟩)

set_option maxHeartbeats 400000 in
set_option maxRecDepth 100000 in
theorem ct_pathAt (G : mx_G) (I : mx_I) (a : Nat) (z : Zs) (hW : cW G I a z) (p q i : Int32) : mx_CT yX9_pathAt mX9_pathAt 8 2 12 [.ref a, .int p, .int q, .int i] G I (fun rv Gz Iz => fl_pathAt z p q i = 0 ∧ rv = some (.int (oI (an_pathAt z p.toInt.toNat q.toInt.toNat i.toInt.toNat))) ∧ cP G I a z Gz Iz) (fun E Gz Iz => (fl_pathAt z p q i) ≠ 0 ∧ E = exN (fl_pathAt z p q i) ∧ cP G I a z Gz Iz) := by
  refine mx_start (k := 0) (by decide) rfl rfl (fun h => nomatch h) (Nat.le_of_ble_eq_true rfl) ?_
  show mx_V mX9_pathAt mx_S0 8 2 12 0 [some (.ref a), some (.int p), some (.int q), some (.int i)] [] G I (fun rv Gz Iz => fl_pathAt z p q i = 0 ∧ rv = some (.int (oI (an_pathAt z p.toInt.toNat q.toInt.toNat i.toInt.toNat))) ∧ cP G I a z Gz Iz) (fun E Gz Iz => (fl_pathAt z p q i) ≠ 0 ∧ E = exN (fl_pathAt z p q i) ∧ cP G I a z Gz Iz)
  have hW0 := hW
  obtain ⟨⟨hSP, hsz, hpe⟩, hTx, hSt, hHi, hSl⟩ := hW
  have oSt : oST G (a + 37) := hSP.2.2.2.2.1.2
  obtain ⟨tg9, ⟨f0, oTx⟩, ⟨f1, oPt⟩, ⟨f2, oRd⟩, ⟨f3, -⟩, ⟨f4, oDr⟩, ⟨f5, oHi⟩, ⟨f6, gSl, lSl, ⟨rq0, oS0⟩, ⟨rq1, oS1⟩⟩, ⟨f7, gFi, lFi⟩, ⟨f8, oSe⟩, ⟨f9, oTr⟩, ⟨f10, oBp⟩⟩ := hSP
  have tg0 : mx_tg G (a + 1) = 17 := oTx.1
  have tg1 : mx_tg G (a + 3) = 12 := oPt.1
  have tg2 : mx_tg G (a + 8) = 13 := oRd.1
  have tg3 : mx_tg G (a + 37) = 16 := oSt.1
  have tg4 : mx_tg G (a + 42) = 16 := oDr.1
  have tg5 : mx_tg G (a + 47) = 11 := oHi.1
  have tg6 : mx_tg G (a + 131) = 15 := oSe.1
  have tg7 : mx_tg G (a + 136) = 15 := oTr.1
  have tg8 : mx_tg G (a + 141) = 10 := oBp.1
  obtain ⟨rT, tT, lT⟩ : mx_rf G (a + 1) 0 = a + 2 ∧ mx_tg G (a + 2) = 2 ∧ mx_ln G (a + 2) = 110 := oTx.2
  have oSt0 : oST G (a + 37) := oSt
  obtain ⟨-, ⟨rF, tF, lF⟩, ⟨rK, tK, lK⟩, ⟨rO, tO, lO⟩, ⟨rC, tC, lC⟩⟩ : mx_tg G (a + 37) = 16 ∧ (mx_rf G (a + 37) 2 = a + 38 ∧ mx_tg G (a + 38) = 1 ∧ mx_ln G (a + 38) = 25) ∧ (mx_rf G (a + 37) 3 = a + 39 ∧ mx_tg G (a + 39) = 1 ∧ mx_ln G (a + 39) = 25) ∧ (mx_rf G (a + 37) 4 = a + 40 ∧ mx_tg G (a + 40) = 1 ∧ mx_ln G (a + 40) = 25) ∧ (mx_rf G (a + 37) 5 = a + 41 ∧ mx_tg G (a + 41) = 1 ∧ mx_ln G (a + 41) = 25) := oSt
  have hSv : stN I (a + 37) (zG z) := hSt.1
  obtain ⟨⟨hP8, hN25, hvb⟩, hs0, hs1, hsF, hsK, hsT, hsC⟩ : stN I (a + 37) (zG z) := hSt.1
  have hN24 : gN (zG z) ≤ 24 := hSt.2.1.1
  have hTx0 := hTx
  obtain ⟨hn110, ht1, htc, htb⟩ : txN I (a + 1) (zN z) (zT z) := hTx
  obtain ⟨pt, hpt⟩ : ∃ pt, mx_rf G (a + 37) 6 = pt := ⟨_, rfl⟩
  have he0 : env G I (a + 37) pt (zG z) (vA (zX z)) := by rw [← hpt]; exact hW0.env
  have hpd : pt = a + 3 ∨ a + 146 ≤ pt := by rw [← hpt]; exact hW0.2.2.1.2.2.1
  have hpd5 : pt + 5 ≤ mx_sz G := by rw [← hpt]; exact hW0.2.2.1.2.2.2.1
  have tgp : mx_tg G pt = 12 := he0.2.1.1
  obtain ⟨rch, tch, lch⟩ : mx_rf G pt 0 = pt + 1 ∧ mx_tg G (pt + 1) = 2 ∧ mx_ln G (pt + 1) = 40 := he0.2.1.2.1
  have hpn : ptN I pt (vA (zX z)) := he0.2.2.2.2
  have hwfp : wfP (vA (zX z)) := hpn.1
  have hwfg : wfG (zG z) := he0.2.2.2.1.1
  have hn40 : (zX z).2.1 ≤ 40 := hSt.2.1.2.1
  have hpz : I pt 1 = nI (zX z).2.1 := by
    rw [hpn.2.1, show pSz (vA (zX z)) = min (zX z).2.1 40 from (rdF_sz _ _).1, Nat.min_eq_left hn40]
  have hpl : I pt 2 = nI (pL (vA (zX z))) := hpn.2.2.1
  have hpc : ∀ i, i < (zX z).2.1 → I (pt + 1) i = nI ((zX z).2.2 i) := fun i hi => by
    have h := hpn.2.2.2.2.1 i (by rw [show pSz (vA (zX z)) = min (zX z).2.1 40 from (rdF_sz _ _).1, Nat.min_eq_left hn40]; exact hi)
    rw [h, show pCh (vA (zX z)) = (zX z).2.2 from (rdF_sz _ _).2]
  have hpc8 : ∀ i, i < (zX z).2.1 → (zX z).2.2 i < 256 := hSt.2.1.2.2.2
  have J22 : ∀ (_ : Unit), ((0 ≤ p.toInt ∧ p.toInt < (gP (zG z) : Int)) ∧ (0 ≤ q.toInt ∧ q.toInt < (gP (zG z) : Int))) → mx_V mX9_pathAt mx_S0 8 1 6 22 [some (.ref a), some (.int p), some (.int q), some (.int i)] [.int (mx_b (decide (0 ≤ i.toInt)))] G I (fun rv Gz Iz => fl_pathAt z p q i = 0 ∧ rv = some (.int (oI (an_pathAt z p.toInt.toNat q.toInt.toNat i.toInt.toNat))) ∧ cP G I a z Gz Iz) (fun E Gz Iz => (fl_pathAt z p q i) ≠ 0 ∧ E = exN (fl_pathAt z p q i) ∧ cP G I a z Gz Iz) := by
    intro _ k1
    refine mx_iconstN 2 dX9_pathAt_22 (by decide) ?_
    refine mx_callS (As := [.int (mx_b (decide (0 ≤ i.toInt))), .int (nI 2)]) (rest := []) (b1 := 1) (b2 := 6) dX9_pathAt_23 (ct_require G I (0 ≤ i.toInt) 2 (by decide)) km_X9_require rfl k_338 k_339 rfl rfl (Nat.le_of_ble_eq_true rfl) (by decide) (fun E G9 I9 h9 => mx_xo rfl (by have hf : fl_pathAt z p q i = 2 := (by unfold fl_pathAt; rw [if_neg (fun q => q k1), if_pos h9.1]); show (fl_pathAt z p q i) ≠ 0 ∧ E = exN (fl_pathAt z p q i) ∧ cP G I a z G9 I9; rw [hf]; exact ⟨by decide, hW0.id.thw h9.2.2⟩)) (fun r1 G3 I2 h4 => ?_)
    obtain ⟨e0, e1, e2, e3⟩ := h4
    have e2 := e2.symm
    subst e1; subst e2; subst e3
    have k2 : 0 ≤ i.toInt := e0.resolve_right (by decide)
    clear e0
    refine mx_aload_n (i := 0) (hi := rfl) (hl := rfl) (hd := dX9_pathAt_26) ?_
    refine mx_getR (ci := 9) (k := 10) (r := (a + 141)) dX9_pathAt_27 k_306 (by decide) rfl (by assumption) (by assumption) (by omega) ?_
    refine mx_aload_n (i := 0) (hi := rfl) (hl := rfl) (hd := dX9_pathAt_30) ?_
    refine mx_getR (ci := 9) (k := 3) (r := (a + 37)) dX9_pathAt_31 k_299 (by decide) rfl (by assumption) (by assumption) (by omega) ?_
    refine mx_iload_n (i := 2) (hi := rfl) (hl := rfl) (hd := dX9_pathAt_34) ?_
    refine mx_callVi (ci := 0) (As := [.ref (a + 37), .int q]) (rest := []) dX9_pathAt_35 ((ct_aimAt G I (a + 141) oBp (a + 37) pt _ _ he0 (qd_o (by decide)) (pd_o hpd (by decide)) q.toInt.toNat (by omega)).eq (by rw [mx_nn k1.2.1])) km_X0_aimAt rfl k_582 k_583 k_584 (by assumption) rfl rfl (Nat.le_of_ble_eq_true rfl) (by decide) (fun r5 I2 h6 => ?_)
    obtain ⟨e9, m1, m3⟩ := h6
    subst e9
    have hP2 := hW0.scr m3 (by omega)
    have hrb := (aFin_B (zG z) (vA (zX z)) q.toInt.toNat).1
    refine mx_aload_n (i := 0) (hi := rfl) (hl := rfl) (hd := dX9_pathAt_38) ?_
    refine mx_getR (ci := 9) (k := 10) (r := (a + 141)) dX9_pathAt_39 k_306 (by decide) rfl (by assumption) (by assumption) (by omega) ?_
    refine mx_aload_n (i := 0) (hi := rfl) (hl := rfl) (hd := dX9_pathAt_42) ?_
    refine mx_getR (ci := 9) (k := 3) (r := (a + 37)) dX9_pathAt_43 k_299 (by decide) rfl (by assumption) (by assumption) (by omega) ?_
    refine mx_iload_n (i := 1) (hi := rfl) (hl := rfl) (hd := dX9_pathAt_46) ?_
    refine mx_iload_n (i := 3) (hi := rfl) (hl := rfl) (hd := dX9_pathAt_47) ?_
    refine mx_callVi (ci := 0) (As := [.ref (a + 37), .int p, .int i]) (rest := []) dX9_pathAt_48 ((ct_goingAt G I2 (a + 141) oBp (a + 37) pt _ _ (he0.fr m3 (qd_o (by decide)) (pd_o hpd (by decide))) (qd_o (by decide)) (pd_o hpd (by decide)) _ m1 hrb p.toInt.toNat i.toInt.toNat (by omega) (by have := Int32.toInt_lt i; omega)).eq (by rw [mx_nn k1.1.1, mx_nn k2])) km_X0_goingAt rfl k_885 k_886 k_887 (by assumption) rfl rfl (Nat.le_of_ble_eq_true rfl) (by decide) (fun r7 I3 h8 => ?_)
    obtain ⟨e9, m4⟩ := h8
    subst e9
    have hP3 := hP2.tr (hP2.1.scr m4 (by omega))
    exact mx_iret dX9_pathAt_51 rfl rfl (⟨by unfold fl_pathAt; rw [if_neg (fun q => q k1), if_neg (fun q => q k2)], rfl, hP3⟩)
  refine mx_aload_n (i := 0) (hi := rfl) (hl := rfl) (hd := dX9_pathAt_0) ?_
  refine mx_getR (ci := 9) (k := 3) (r := (a + 37)) dX9_pathAt_1 k_299 (by decide) rfl (by assumption) (by assumption) (by omega) ?_
  refine mx_iload_n (i := 1) (hi := rfl) (hl := rfl) (hd := dX9_pathAt_4) ?_
  refine mx_iload_n (i := 2) (hi := rfl) (hl := rfl) (hd := dX9_pathAt_5) ?_
  refine mx_callVp (ci := 6) (As := [.int p, .int q]) (rest := []) dX9_pathAt_6 (ct_hasPeople G I (a + 37) _ oSt0 hSv p q) km_X6_hasPeople rfl k_533 k_466 k_467 (by assumption) rfl rfl (Nat.le_of_ble_eq_true rfl) (by decide) ?_
  refine mx_iconstN 1 dX9_pathAt_9 (by decide) ?_
  refine mx_callS (As := [.int (mx_b (decide ((0 ≤ p.toInt ∧ p.toInt < (gP (zG z) : Int)) ∧ (0 ≤ q.toInt ∧ q.toInt < (gP (zG z) : Int))))), .int (nI 1)]) (rest := []) (b1 := 1) (b2 := 6) dX9_pathAt_10 (ct_require G I ((0 ≤ p.toInt ∧ p.toInt < (gP (zG z) : Int)) ∧ (0 ≤ q.toInt ∧ q.toInt < (gP (zG z) : Int))) 1 (by decide)) km_X9_require rfl k_338 k_339 rfl rfl (Nat.le_of_ble_eq_true rfl) (by decide) (fun E G9 I9 h9 => mx_xo rfl (by have hf : fl_pathAt z p q i = 1 := (by unfold fl_pathAt; rw [if_pos h9.1]); show (fl_pathAt z p q i) ≠ 0 ∧ E = exN (fl_pathAt z p q i) ∧ cP G I a z G9 I9; rw [hf]; exact ⟨by decide, hW0.id.thw h9.2.2⟩)) (fun r9 G11 I10 h12 => ?_)
  obtain ⟨e0, e1, e2, e3⟩ := h12
  have e2 := e2.symm
  subst e1; subst e2; subst e3
  have k1 : (0 ≤ p.toInt ∧ p.toInt < (gP (zG z) : Int)) ∧ (0 ≤ q.toInt ∧ q.toInt < (gP (zG z) : Int)) := e0.resolve_right (by decide)
  clear e0
  refine mx_iload_n (i := 3) (hi := rfl) (hl := rfl) (hd := dX9_pathAt_13) ?_
  refine mx_ifR_lt 21 dX9_pathAt_14 (by decide) (fun c14 => ?_) (fun c14 => ?_)
  · skip
    refine mx_iconstN 0 dX9_pathAt_21 (by decide) ?_
    refine mx_top (y := mx_b (decide (0 ≤ i.toInt))) (mx_bF (by omega)) ?_
    exact J22 () k1
  · skip
    refine mx_iconstN 1 dX9_pathAt_17 (by decide) ?_
    refine mx_goto (tgt := 22) dX9_pathAt_18 (by decide) ?_
    refine mx_top (y := mx_b (decide (0 ≤ i.toInt))) (mx_bT (by omega)) ?_
    exact J22 () k1

/-- the steps, of those below n, without which no path is left -/
def ndB (v : Gr) (A : Pa) (p q : Nat) : Nat → Nat
  | 0 => 0
  | s + 1 => ndB v A p q s ||| (if sCs v A p (some q) (2 ^ s) 1512 q = none then 2 ^ s else 0)
def an_needed (z : Zs) (p q : Nat) : Nat := if sCs (zG z) (vA (zX z)) p (some q) 0 1512 q = none then 0 else ndB (zG z) (vA (zX z)) p q (gN (zG z))
theorem pw31 {s n : Nat} (h : s < n) (hn : n ≤ 25) : 2 ^ s < 2 ^ 31 := Nat.pow_lt_pow_right (by decide) (by omega)

set_option maxHeartbeats 400000 in
set_option maxRecDepth 100000 in
theorem ct_needed (G : mx_G) (I : mx_I) (a : Nat) (z : Zs) (hW : cW G I a z) (p q : Int32) : mx_CT yX9_needed mX9_needed 8 1 6 [.ref a, .int p, .int q] G I (fun rv Gz Iz => fl_two z p q = 0 ∧ rv = some (.int (nI (an_needed z p.toInt.toNat q.toInt.toNat))) ∧ cP G I a z Gz Iz) (fun E Gz Iz => (fl_two z p q) ≠ 0 ∧ E = exN (fl_two z p q) ∧ cP G I a z Gz Iz) := by
  refine mx_start (k := 2) (by decide) rfl rfl (fun h => nomatch h) (Nat.le_of_ble_eq_true rfl) ?_
  show mx_V mX9_needed mx_S0 8 1 6 0 [some (.ref a), some (.int p), some (.int q), none, none] [] G I (fun rv Gz Iz => fl_two z p q = 0 ∧ rv = some (.int (nI (an_needed z p.toInt.toNat q.toInt.toNat))) ∧ cP G I a z Gz Iz) (fun E Gz Iz => (fl_two z p q) ≠ 0 ∧ E = exN (fl_two z p q) ∧ cP G I a z Gz Iz)
  have hW0 := hW
  obtain ⟨⟨hSP, hsz, hpe⟩, hTx, hSt, hHi, hSl⟩ := hW
  have oSt : oST G (a + 37) := hSP.2.2.2.2.1.2
  obtain ⟨tg9, ⟨f0, oTx⟩, ⟨f1, oPt⟩, ⟨f2, oRd⟩, ⟨f3, -⟩, ⟨f4, oDr⟩, ⟨f5, oHi⟩, ⟨f6, gSl, lSl, ⟨rq0, oS0⟩, ⟨rq1, oS1⟩⟩, ⟨f7, gFi, lFi⟩, ⟨f8, oSe⟩, ⟨f9, oTr⟩, ⟨f10, oBp⟩⟩ := hSP
  have tg0 : mx_tg G (a + 1) = 17 := oTx.1
  have tg1 : mx_tg G (a + 3) = 12 := oPt.1
  have tg2 : mx_tg G (a + 8) = 13 := oRd.1
  have tg3 : mx_tg G (a + 37) = 16 := oSt.1
  have tg4 : mx_tg G (a + 42) = 16 := oDr.1
  have tg5 : mx_tg G (a + 47) = 11 := oHi.1
  have tg6 : mx_tg G (a + 131) = 15 := oSe.1
  have tg7 : mx_tg G (a + 136) = 15 := oTr.1
  have tg8 : mx_tg G (a + 141) = 10 := oBp.1
  obtain ⟨rT, tT, lT⟩ : mx_rf G (a + 1) 0 = a + 2 ∧ mx_tg G (a + 2) = 2 ∧ mx_ln G (a + 2) = 110 := oTx.2
  have oSt0 : oST G (a + 37) := oSt
  obtain ⟨-, ⟨rF, tF, lF⟩, ⟨rK, tK, lK⟩, ⟨rO, tO, lO⟩, ⟨rC, tC, lC⟩⟩ : mx_tg G (a + 37) = 16 ∧ (mx_rf G (a + 37) 2 = a + 38 ∧ mx_tg G (a + 38) = 1 ∧ mx_ln G (a + 38) = 25) ∧ (mx_rf G (a + 37) 3 = a + 39 ∧ mx_tg G (a + 39) = 1 ∧ mx_ln G (a + 39) = 25) ∧ (mx_rf G (a + 37) 4 = a + 40 ∧ mx_tg G (a + 40) = 1 ∧ mx_ln G (a + 40) = 25) ∧ (mx_rf G (a + 37) 5 = a + 41 ∧ mx_tg G (a + 41) = 1 ∧ mx_ln G (a + 41) = 25) := oSt
  have hSv : stN I (a + 37) (zG z) := hSt.1
  obtain ⟨⟨hP8, hN25, hvb⟩, hs0, hs1, hsF, hsK, hsT, hsC⟩ : stN I (a + 37) (zG z) := hSt.1
  have hN24 : gN (zG z) ≤ 24 := hSt.2.1.1
  have hTx0 := hTx
  obtain ⟨hn110, ht1, htc, htb⟩ : txN I (a + 1) (zN z) (zT z) := hTx
  obtain ⟨pt, hpt⟩ : ∃ pt, mx_rf G (a + 37) 6 = pt := ⟨_, rfl⟩
  have he0 : env G I (a + 37) pt (zG z) (vA (zX z)) := by rw [← hpt]; exact hW0.env
  have hpd : pt = a + 3 ∨ a + 146 ≤ pt := by rw [← hpt]; exact hW0.2.2.1.2.2.1
  have hpd5 : pt + 5 ≤ mx_sz G := by rw [← hpt]; exact hW0.2.2.1.2.2.2.1
  have tgp : mx_tg G pt = 12 := he0.2.1.1
  obtain ⟨rch, tch, lch⟩ : mx_rf G pt 0 = pt + 1 ∧ mx_tg G (pt + 1) = 2 ∧ mx_ln G (pt + 1) = 40 := he0.2.1.2.1
  have hpn : ptN I pt (vA (zX z)) := he0.2.2.2.2
  have hwfp : wfP (vA (zX z)) := hpn.1
  have hwfg : wfG (zG z) := he0.2.2.2.1.1
  have hn40 : (zX z).2.1 ≤ 40 := hSt.2.1.2.1
  have hpz : I pt 1 = nI (zX z).2.1 := by
    rw [hpn.2.1, show pSz (vA (zX z)) = min (zX z).2.1 40 from (rdF_sz _ _).1, Nat.min_eq_left hn40]
  have hpl : I pt 2 = nI (pL (vA (zX z))) := hpn.2.2.1
  have hpc : ∀ i, i < (zX z).2.1 → I (pt + 1) i = nI ((zX z).2.2 i) := fun i hi => by
    have h := hpn.2.2.2.2.1 i (by rw [show pSz (vA (zX z)) = min (zX z).2.1 40 from (rdF_sz _ _).1, Nat.min_eq_left hn40]; exact hi)
    rw [h, show pCh (vA (zX z)) = (zX z).2.2 from (rdF_sz _ _).2]
  have hpc8 : ∀ i, i < (zX z).2.1 → (zX z).2.2 i < 256 := hSt.2.1.2.2.2
  have L37 : ∀ (fq : Nat) (s n : Nat) (I1 : mx_I), gN (zG z) - s < fq → ((0 ≤ p.toInt ∧ p.toInt < (gP (zG z) : Int)) ∧ (0 ≤ q.toInt ∧ q.toInt < (gP (zG z) : Int))) → (¬ sCs (zG z) (vA (zX z)) p.toInt.toNat (some q.toInt.toNat) 0 1512 q.toInt.toNat = none) → (s ≤ gN (zG z)) → (n = ndB (zG z) (vA (zX z)) p.toInt.toNat q.toInt.toNat s) → (mx_fr I I1 (a + 131) (a + 131 + 5)) → mx_V mX9_needed mx_S0 8 0 0 37 [some (.ref a), some (.int p), some (.int q), some (.int (nI n)), some (.int (nI s))] [] G I1 (fun rv Gz Iz => fl_two z p q = 0 ∧ rv = some (.int (nI (an_needed z p.toInt.toNat q.toInt.toNat))) ∧ cP G I a z Gz Iz) (fun E Gz Iz => (fl_two z p q) ≠ 0 ∧ E = exN (fl_two z p q) ∧ cP G I a z Gz Iz) := by
    intro fq
    induction fq with
    | zero => intro s n I1 hfu; exact absurd hfu (Nat.not_lt_zero _)
    | succ fq ih =>
      intro s n I1 hfu k1 hS9 hs hx hfr
      refine mx_iload (i := 4) (hl := rfl) (hd := dX9_needed_37) ?_
      refine mx_aload_n (i := 0) (hi := rfl) (hl := rfl) (hd := dX9_needed_39) ?_
      refine mx_getR (ci := 9) (k := 3) (r := (a + 37)) dX9_needed_40 k_299 (by decide) rfl (by assumption) (by assumption) (by omega) ?_
      refine mx_getV (ci := 6) (k := 1) (nI (gN (zG z))) dX9_needed_43 k_170 (by decide) rfl (by assumption) (by rw [hfr _ (by omega)]; exact hs1) ?_
      refine mx_cmpN_ge 86 dX9_needed_46 (by decide) (by omega) (by omega) (fun c46 => ?_) (fun c46 => ?_)
      · skip
        refine mx_iload_n (i := 3) (hi := rfl) (hl := rfl) (hd := dX9_needed_86) ?_
        exact mx_iret dX9_needed_87 rfl rfl (⟨by unfold fl_two; rw [if_neg (fun q => q k1)], by unfold an_needed; rw [if_neg hS9, hx, show s = gN (zG z) by omega], hW0.scr hfr (by omega)⟩)
      · skip
        refine mx_iload_n (i := 3) (hi := rfl) (hl := rfl) (hd := dX9_needed_49) ?_
        refine mx_aload_n (i := 0) (hi := rfl) (hl := rfl) (hd := dX9_needed_50) ?_
        refine mx_getR (ci := 9) (k := 8) (r := (a + 131)) dX9_needed_51 k_304 (by decide) rfl (by assumption) (by assumption) (by omega) ?_
        refine mx_aload_n (i := 0) (hi := rfl) (hl := rfl) (hd := dX9_needed_54) ?_
        refine mx_getR (ci := 9) (k := 3) (r := (a + 37)) dX9_needed_55 k_299 (by decide) rfl (by assumption) (by assumption) (by omega) ?_
        refine mx_iload_n (i := 1) (hi := rfl) (hl := rfl) (hd := dX9_needed_58) ?_
        refine mx_iload_n (i := 2) (hi := rfl) (hl := rfl) (hd := dX9_needed_59) ?_
        refine mx_iconstN 1 dX9_needed_60 (by decide) ?_
        refine mx_iload (i := 4) (hl := rfl) (hd := dX9_needed_61) ?_
        refine mx_ishl1N dX9_needed_63 (by omega) ?_
        refine mx_callVi (ci := 5) (As := [.ref (a + 37), .int p, .int q, .int (nI (2 ^ s))]) (rest := [.int (nI n)]) dX9_needed_64 ((ct_finds G I1 (a + 131) oSe (a + 37) pt _ _ (he0.fr hfr (qd_o (by decide)) (pd_o hpd (by decide))) (qd_o (by decide)) (pd_o hpd (by decide)) p.toInt.toNat q.toInt.toNat (2 ^ s) (by omega) (by omega) (pw31 (by omega) hN25)).eq (by rw [mx_nn k1.1.1, mx_nn k1.2.1])) km_X5_finds rfl k_634 k_635 k_636 (by assumption) rfl rfl (Nat.le_of_ble_eq_true rfl) (by decide) (fun r1 I3 h2 => ?_)
        obtain ⟨e9, m4⟩ := h2
        subst e9
        refine mx_ifB_eq 74 dX9_needed_67 (by decide) (fun c67 => ?_) (fun c67 => ?_)
        · skip
          refine mx_iconstN 1 dX9_needed_74 (by decide) ?_
          refine mx_iload (i := 4) (hl := rfl) (hd := dX9_needed_75) ?_
          refine mx_ishl1N dX9_needed_77 (by omega) ?_
          refine mx_iorN dX9_needed_78 ?_
          refine mx_istoreE_n (i := 3) (ls' := [some (.ref a), some (.int p), some (.int q), some (.int (nI (n ||| (2 ^ s)))), some (.int (nI s))]) (hi := rfl) (hd := dX9_needed_79) (hn := by decide) (hok := rfl) (hls := rfl) ?_
          refine mx_iincE (i := 4) (ls' := [some (.ref a), some (.int p), some (.int q), some (.int (nI (n ||| (2 ^ s)))), some (.int (nI (s + 1)))]) 1 dX9_needed_80 rfl (by decide) (by decide) rfl rfl ?_
          refine mx_goto (tgt := 37) dX9_needed_83 (by decide) ?_
          exact ih (s + 1) _ _ (by omega) k1 hS9 (by omega) (by rw [hx, ndB, if_pos (Classical.not_not.mp c67)]) (hfr.tr m4)
        · skip
          refine mx_iconstN 0 dX9_needed_70 (by decide) ?_
          refine mx_goto (tgt := 78) dX9_needed_71 (by decide) ?_
          refine mx_iorN dX9_needed_78 ?_
          refine mx_istoreE_n (i := 3) (ls' := [some (.ref a), some (.int p), some (.int q), some (.int (nI (n ||| 0))), some (.int (nI s))]) (hi := rfl) (hd := dX9_needed_79) (hn := by decide) (hok := rfl) (hls := rfl) ?_
          refine mx_iincE (i := 4) (ls' := [some (.ref a), some (.int p), some (.int q), some (.int (nI (n ||| 0))), some (.int (nI (s + 1)))]) 1 dX9_needed_80 rfl (by decide) (by decide) rfl rfl ?_
          refine mx_goto (tgt := 37) dX9_needed_83 (by decide) ?_
          exact ih (s + 1) _ _ (by omega) k1 hS9 (by omega) (by rw [hx, ndB, if_neg c67]) (hfr.tr m4)
  refine mx_aload_n (i := 0) (hi := rfl) (hl := rfl) (hd := dX9_needed_0) ?_
  refine mx_getR (ci := 9) (k := 3) (r := (a + 37)) dX9_needed_1 k_299 (by decide) rfl (by assumption) (by assumption) (by omega) ?_
  refine mx_iload_n (i := 1) (hi := rfl) (hl := rfl) (hd := dX9_needed_4) ?_
  refine mx_iload_n (i := 2) (hi := rfl) (hl := rfl) (hd := dX9_needed_5) ?_
  refine mx_callVp (ci := 6) (As := [.int p, .int q]) (rest := []) dX9_needed_6 (ct_hasPeople G I (a + 37) _ oSt0 hSv p q) km_X6_hasPeople rfl k_533 k_466 k_467 (by assumption) rfl rfl (Nat.le_of_ble_eq_true rfl) (by decide) ?_
  refine mx_iconstN 1 dX9_needed_9 (by decide) ?_
  refine mx_callS (As := [.int (mx_b (decide ((0 ≤ p.toInt ∧ p.toInt < (gP (zG z) : Int)) ∧ (0 ≤ q.toInt ∧ q.toInt < (gP (zG z) : Int))))), .int (nI 1)]) (rest := []) (b1 := 1) (b2 := 6) dX9_needed_10 (ct_require G I ((0 ≤ p.toInt ∧ p.toInt < (gP (zG z) : Int)) ∧ (0 ≤ q.toInt ∧ q.toInt < (gP (zG z) : Int))) 1 (by decide)) km_X9_require rfl k_338 k_339 rfl rfl (Nat.le_of_ble_eq_true rfl) (by decide) (fun E G9 I9 h9 => mx_xo rfl (by have hf : fl_two z p q = 1 := (by unfold fl_two; rw [if_pos h9.1]); show (fl_two z p q) ≠ 0 ∧ E = exN (fl_two z p q) ∧ cP G I a z G9 I9; rw [hf]; exact ⟨by decide, hW0.id.thw h9.2.2⟩)) (fun r3 G5 I4 h6 => ?_)
  obtain ⟨e0, e1, e2, e3⟩ := h6
  have e2 := e2.symm
  subst e1; subst e2; subst e3
  have k1 : (0 ≤ p.toInt ∧ p.toInt < (gP (zG z) : Int)) ∧ (0 ≤ q.toInt ∧ q.toInt < (gP (zG z) : Int)) := e0.resolve_right (by decide)
  clear e0
  refine mx_aload_n (i := 0) (hi := rfl) (hl := rfl) (hd := dX9_needed_13) ?_
  refine mx_getR (ci := 9) (k := 8) (r := (a + 131)) dX9_needed_14 k_304 (by decide) rfl (by assumption) (by assumption) (by omega) ?_
  refine mx_aload_n (i := 0) (hi := rfl) (hl := rfl) (hd := dX9_needed_17) ?_
  refine mx_getR (ci := 9) (k := 3) (r := (a + 37)) dX9_needed_18 k_299 (by decide) rfl (by assumption) (by assumption) (by omega) ?_
  refine mx_iload_n (i := 1) (hi := rfl) (hl := rfl) (hd := dX9_needed_21) ?_
  refine mx_iload_n (i := 2) (hi := rfl) (hl := rfl) (hd := dX9_needed_22) ?_
  refine mx_iconstN 0 dX9_needed_23 (by decide) ?_
  refine mx_callVi (ci := 5) (As := [.ref (a + 37), .int p, .int q, .int (nI 0)]) (rest := []) dX9_needed_24 ((ct_finds G I (a + 131) oSe (a + 37) pt _ _ he0 (qd_o (by decide)) (pd_o hpd (by decide)) p.toInt.toNat q.toInt.toNat 0 (by omega) (by omega) (by decide)).eq (by rw [mx_nn k1.1.1, mx_nn k1.2.1])) km_X5_finds rfl k_634 k_635 k_636 (by assumption) rfl rfl (Nat.le_of_ble_eq_true rfl) (by decide) (fun r7 I2 h8 => ?_)
  obtain ⟨e9, m3⟩ := h8
  subst e9
  have hP2 := hW0.scr m3 (by omega)
  refine mx_ifB_ne 32 dX9_needed_27 (by decide) (fun c27 => ?_) (fun c27 => ?_)
  · skip
    have hS9 := c27
    refine mx_iconstN 0 dX9_needed_32 (by decide) ?_
    refine mx_istoreE_n (i := 3) (ls' := [some (.ref a), some (.int p), some (.int q), some (.int (nI 0)), none]) (hi := rfl) (hd := dX9_needed_33) (hn := by decide) (hok := rfl) (hls := rfl) ?_
    refine mx_iconstN 0 dX9_needed_34 (by decide) ?_
    refine mx_istoreE (i := 4) (ls' := [some (.ref a), some (.int p), some (.int q), some (.int (nI 0)), some (.int (nI 0))]) (hd := dX9_needed_35) (hn := by decide) (hok := rfl) (hls := rfl) ?_
    exact L37 _ 0 0 _ (Nat.lt_succ_self _) k1 hS9 (Nat.zero_le _) rfl m3
  · skip
    refine mx_iconstN 0 dX9_needed_30 (by decide) ?_
    exact mx_iret dX9_needed_31 rfl rfl (⟨by unfold fl_two; rw [if_neg (fun q => q k1)], by unfold an_needed; rw [if_pos (Classical.not_not.mp c27)], hP2⟩)

/-- a sum over steps and directions -/
def smS (f : Nat → Nat → Nat) : Nat → Nat
  | 0 => 0
  | s + 1 => smS f s + f s 0 + f s 1
/-- how many rows of at most so many goings lead on to q -/
def cF (v : Gr) (A : Pa) (q : Nat) : Nat → Nat → Nat → Nat
  | 0, here, ps => if here = q ∧ ¬ ps &&& pAc A = 0 then 1 else 0
  | g + 1, here, ps => (if here = q ∧ ¬ ps &&& pAc A = 0 then 1 else 0) + smS (fun s d => if (if d = 0 then gF v s else gT v s) = here ∧ ¬ pFol A ps &&& pEn A d (gK v s) = 0 then cF v A q g (if d = 0 then gT v s else gF v s) (pFol A ps &&& pEn A d (gK v s)) else 0) (gN v)
def cfT (v : Gr) (A : Pa) (q g here ps s d : Nat) : Nat := if (if d = 0 then gF v s else gT v s) = here ∧ ¬ pFol A ps &&& pEn A d (gK v s) = 0 then cF v A q g (if d = 0 then gT v s else gF v s) (pFol A ps &&& pEn A d (gK v s)) else 0

set_option maxHeartbeats 400000 in
set_option maxRecDepth 100000 in
theorem ct_cf0 (G : mx_G) (I : mx_I) (q pt : Nat) (v : Gr) (A : Pa) (he : env G I q pt v A) (r here ps : Nat) (hr : r < 8) (hh : here < 8) (hps : ps < 2 ^ 21) : mx_CTp yX9_countFitting mX9_countFitting 2 [.ref q, .int (nI here), .int (nI ps), .int (nI r), .int (nI 0)] G I (some (.int (nI (cF v A r 0 here ps)))) := by
  refine mx_start (k := 5) (by decide) rfl rfl (fun h => nomatch h) (Nat.le_of_ble_eq_true rfl) ?_
  show mx_V mX9_countFitting mx_S0 2 0 0 0 [some (.ref q), some (.int (nI here)), some (.int (nI ps)), some (.int (nI r)), some (.int (nI 0)), none, none, none, none, none] [] G I (fun rv Gz Iz => rv = some (.int (nI (cF v A r 0 here ps))) ∧ Gz = G ∧ Iz = I) (fun _ _ _ => False)
  have he0 := he
  have hwp := he.2.2.2.2.1
  obtain ⟨hsq, hsp, hrp, hvq, hvp⟩ := he
  have hsp0 := hsp
  have hvp0 := hvp
  have hsq0 := hsq
  have hvq0 := hvq
  obtain ⟨hg0, ⟨hg2, hg3, hg4⟩, ⟨hg5, hg6, hg7⟩, ⟨hg8, hg9, hg10⟩, ⟨hg11, hg12, hg13⟩⟩ := hsq
  obtain ⟨⟨hP, hN, hb⟩, hv0, hv1, hF, hK, hT, hC⟩ := hvq
  obtain ⟨hp0, ⟨hp2, hp3, hp4⟩, ⟨hp5, hp6, hp7⟩, ⟨hp8, hp9, hp10⟩, ⟨hp11, hp12, hp13⟩⟩ := hsp
  obtain ⟨⟨hwL, hwA, hwB, hwE, hwc, hwz, hwx⟩, hu1, hu2, hu6, hCh, hA, hB, hE⟩ := hvp
  have J21 : ∀ (_ : Unit), mx_V mX9_countFitting mx_S0 2 0 0 21 [some (.ref q), some (.int (nI here)), some (.int (nI ps)), some (.int (nI r)), some (.int (nI 0)), none, none, none, none, none] [.int (nI (if here = r ∧ ¬ ps &&& pAc A = 0 then 1 else 0))] G I (fun rv Gz Iz => rv = some (.int (nI (cF v A r 0 here ps))) ∧ Gz = G ∧ Iz = I) (fun _ _ _ => False) := by
    intro _ 
    refine mx_istoreE (i := 5) (ls' := [some (.ref q), some (.int (nI here)), some (.int (nI ps)), some (.int (nI r)), some (.int (nI 0)), some (.int (nI (if here = r ∧ ¬ ps &&& pAc A = 0 then 1 else 0))), none, none, none, none]) (hd := dX9_countFitting_21) (hn := by decide) (hok := rfl) (hls := rfl) ?_
    refine mx_iload (i := 4) (hl := rfl) (hd := dX9_countFitting_23) ?_
    refine mx_ifN_gt 31 dX9_countFitting_25 (by decide) (by decide) (fun c25 => ?_) (fun c25 => ?_)
    · skip
      exact absurd c25 (by decide)
    · skip
      refine mx_iload (i := 5) (hl := rfl) (hd := dX9_countFitting_28) ?_
      exact mx_iret dX9_countFitting_30 rfl rfl (⟨rfl, rfl, rfl⟩)
  refine mx_iload_n (i := 1) (hi := rfl) (hl := rfl) (hd := dX9_countFitting_0) ?_
  refine mx_iload_n (i := 3) (hi := rfl) (hl := rfl) (hd := dX9_countFitting_1) ?_
  refine mx_cmpN_ne 20 dX9_countFitting_2 (by decide) (by omega) (by omega) (fun c2 => ?_) (fun c2 => ?_)
  · skip
    refine mx_iconstN 0 dX9_countFitting_20 (by decide) ?_
    refine mx_top (y := nI (if here = r ∧ ¬ ps &&& pAc A = 0 then 1 else 0)) (by rw [if_neg (by first | exact fun z => c2 z.1 | exact fun z => z.2 (Classical.not_not.mp c13) | exact fun z => c13 z.2)]) ?_
    exact J21 ()
  · skip
    refine mx_aload_n (i := 0) (hi := rfl) (hl := rfl) (hd := dX9_countFitting_5) ?_
    refine mx_getR (ci := 6) (k := 6) (r := pt) dX9_countFitting_6 k_193 (by decide) rfl (by assumption) (by assumption) (by omega) ?_
    refine mx_iload_n (i := 2) (hi := rfl) (hl := rfl) (hd := dX9_countFitting_9) ?_
    refine mx_callVp (ci := 2) (As := [.int (nI ps)]) (rest := []) dX9_countFitting_10 (ct_accepts G I pt A hsp0 hvp0 ps hps) km_X2_accepts rfl k_710 k_563 k_564 (by assumption) rfl rfl (Nat.le_of_ble_eq_true rfl) (by decide) ?_
    refine mx_ifB_eq 20 dX9_countFitting_13 (by decide) (fun c13 => ?_) (fun c13 => ?_)
    · skip
      refine mx_iconstN 0 dX9_countFitting_20 (by decide) ?_
      refine mx_top (y := nI (if here = r ∧ ¬ ps &&& pAc A = 0 then 1 else 0)) (by rw [if_neg (by first | exact fun z => c2 z.1 | exact fun z => z.2 (Classical.not_not.mp c13) | exact fun z => c13 z.2)]) ?_
      exact J21 ()
    · skip
      refine mx_iconstN 1 dX9_countFitting_16 (by decide) ?_
      refine mx_goto (tgt := 21) dX9_countFitting_17 (by decide) ?_
      refine mx_top (y := nI (if here = r ∧ ¬ ps &&& pAc A = 0 then 1 else 0)) (by rw [if_pos ⟨by omega, c13⟩]) ?_
      exact J21 ()

theorem cfT_0 {v : Gr} {A : Pa} {r g here ps s d : Nat} (h : (if (if d = 0 then gF v s else gT v s) = here then pFol A ps &&& pEn A d (gK v s) else 0) = 0) : cfT v A r g here ps s d = 0 := by
  unfold cfT
  by_cases c : (if d = 0 then gF v s else gT v s) = here
  · rw [if_pos c] at h
    rw [if_neg (fun z => z.2 h)]
  · rw [if_neg (fun z => c z.1)]
theorem cfT_1 {v : Gr} {A : Pa} {r g here ps s d : Nat} (h : ¬ (if (if d = 0 then gF v s else gT v s) = here then pFol A ps &&& pEn A d (gK v s) else 0) = 0) : cfT v A r g here ps s d = cF v A r g (if d = 0 then gT v s else gF v s) (if (if d = 0 then gF v s else gT v s) = here then pFol A ps &&& pEn A d (gK v s) else 0) := by
  unfold cfT
  by_cases c : (if d = 0 then gF v s else gT v s) = here
  · rw [if_pos c] at h ⊢
    rw [if_pos ⟨c, h⟩]
  · rw [if_neg c] at h; exact absurd rfl h
theorem ite_lt {c : Prop} [Decidable c] {x n : Nat} (h : x < n) (h0 : 0 < n) : (if c then x else 0) < n := by
  split
  · exact h
  · exact h0
def smD (f : Nat → Nat) : Nat → Nat
  | 0 => 0
  | d + 1 => smD f d + f d

set_option maxHeartbeats 1000000 in
set_option maxRecDepth 100000 in
theorem ct_cfS (G : mx_G) (I : mx_I) (q pt : Nat) (v : Gr) (A : Pa) (he : env G I q pt v A) (r here ps : Nat) (hr : r < 8) (hh : here < 8) (hps : ps < 2 ^ 21) (g : Nat) (hg4 : g < 2 ^ 20) (ihg : ∀ (here ps : Nat), here < 8 → ps < 2 ^ 21 → mx_CTp yX9_countFitting mX9_countFitting (g + 2) [.ref q, .int (nI here), .int (nI ps), .int (nI r), .int (nI g)] G I (some (.int (nI (cF v A r g here ps))))) : mx_CTp yX9_countFitting mX9_countFitting (g + 3) [.ref q, .int (nI here), .int (nI ps), .int (nI r), .int (nI (g + 1))] G I (some (.int (nI (cF v A r (g + 1) here ps)))) := by
  refine mx_start (k := 5) (by decide) rfl rfl (fun h => nomatch h) (Nat.le_of_ble_eq_true rfl) ?_
  show mx_V mX9_countFitting mx_S0 (g + 3) 0 0 0 [some (.ref q), some (.int (nI here)), some (.int (nI ps)), some (.int (nI r)), some (.int (nI (g + 1))), none, none, none, none, none] [] G I (fun rv Gz Iz => rv = some (.int (nI (cF v A r (g + 1) here ps))) ∧ Gz = G ∧ Iz = I) (fun _ _ _ => False)
  have he0 := he
  have hwp := he.2.2.2.2.1
  obtain ⟨hsq, hsp, hrp, hvq, hvp⟩ := he
  have hsp0 := hsp
  have hvp0 := hvp
  have hsq0 := hsq
  have hvq0 := hvq
  obtain ⟨hg0, ⟨hg2, hg3, hg4⟩, ⟨hg5, hg6, hg7⟩, ⟨hg8, hg9, hg10⟩, ⟨hg11, hg12, hg13⟩⟩ := hsq
  obtain ⟨⟨hP, hN, hb⟩, hv0, hv1, hF, hK, hT, hC⟩ := hvq
  obtain ⟨hp0, ⟨hp2, hp3, hp4⟩, ⟨hp5, hp6, hp7⟩, ⟨hp8, hp9, hp10⟩, ⟨hp11, hp12, hp13⟩⟩ := hsp
  obtain ⟨⟨hwL, hwA, hwB, hwE, hwc, hwz, hwx⟩, hu1, hu2, hu6, hCh, hA, hB, hE⟩ := hvp
  have L44 : ∀ (fq : Nat) (s n : Nat), gN v - s < fq → (s ≤ gN v) → (n = (if here = r ∧ ¬ ps &&& pAc A = 0 then 1 else 0) + smS (cfT v A r g here ps) s) → mx_V mX9_countFitting mx_S0 (g + 3) 0 0 44 [some (.ref q), some (.int (nI here)), some (.int (nI ps)), some (.int (nI r)), some (.int (nI (g + 1))), some (.int (nI n)), some (.int (nI (pFol A ps))), some (.int (nI s)), none, none] [] G I (fun rv Gz Iz => rv = some (.int (nI (cF v A r (g + 1) here ps))) ∧ Gz = G ∧ Iz = I) (fun _ _ _ => False) := by
    intro fq
    induction fq with
    | zero => intro s n hfu; exact absurd hfu (Nat.not_lt_zero _)
    | succ fq ih =>
      intro s n hfu hs hx
      have L56 : ∀ (fq : Nat) (d n : Nat), 2 - d < fq → (d ≤ 2) → (s < gN v) → (n = (if here = r ∧ ¬ ps &&& pAc A = 0 then 1 else 0) + smS (cfT v A r g here ps) s + smD (cfT v A r g here ps s) d) → mx_V mX9_countFitting mx_S0 (g + 3) 0 0 56 [some (.ref q), some (.int (nI here)), some (.int (nI ps)), some (.int (nI r)), some (.int (nI (g + 1))), some (.int (nI n)), some (.int (nI (pFol A ps))), some (.int (nI s)), some (.int (nI d)), none] [] G I (fun rv Gz Iz => rv = some (.int (nI (cF v A r (g + 1) here ps))) ∧ Gz = G ∧ Iz = I) (fun _ _ _ => False) := by
        intro fq
        induction fq with
        | zero => intro d n hfu; exact absurd hfu (Nat.not_lt_zero _)
        | succ fq ih2 =>
          intro d n hfu hd hsl hxd
          refine mx_iload (i := 8) (hl := rfl) (hd := dX9_countFitting_56) ?_
          refine mx_iconstN 2 dX9_countFitting_58 (by decide) ?_
          refine mx_cmpN_ge 125 dX9_countFitting_59 (by decide) (by omega) (by omega) (fun c59 => ?_) (fun c59 => ?_)
          · skip
            refine mx_iincE (i := 7) (ls' := [some (.ref q), some (.int (nI here)), some (.int (nI ps)), some (.int (nI r)), some (.int (nI (g + 1))), some (.int (nI n)), some (.int (nI (pFol A ps))), some (.int (nI (s + 1))), some (.int (nI d)), none]) 1 dX9_countFitting_125 rfl (by decide) (by decide) rfl rfl ?_
            refine mx_goto (tgt := 44) dX9_countFitting_128 (by decide) ?_
            refine mx_leS (ls' := [some (.ref q), some (.int (nI here)), some (.int (nI ps)), some (.int (nI r)), some (.int (nI (g + 1))), some (.int (nI n)), some (.int (nI (pFol A ps))), some (.int (nI (s + 1))), none, none]) ⟨rfl, rfl, rfl, rfl, rfl, rfl, rfl, rfl, trivial⟩ ?_
            exact ih (s + 1) _ (by omega) (by omega) (by rw [hxd, show d = 2 by omega]; show _ + smS _ s + (0 + cfT v A r g here ps s 0 + cfT v A r g here ps s 1) = _ + (smS _ s + cfT v A r g here ps s 0 + cfT v A r g here ps s 1); omega)
          · skip
            have J88 : ∀ (_ : Unit), mx_V mX9_countFitting mx_S0 (g + 3) 0 0 88 [some (.ref q), some (.int (nI here)), some (.int (nI ps)), some (.int (nI r)), some (.int (nI (g + 1))), some (.int (nI n)), some (.int (nI (pFol A ps))), some (.int (nI s)), some (.int (nI d)), none] [.int (nI (if (if d = 0 then gF v s else gT v s) = here then pFol A ps &&& pEn A d (gK v s) else 0))] G I (fun rv Gz Iz => rv = some (.int (nI (cF v A r (g + 1) here ps))) ∧ Gz = G ∧ Iz = I) (fun _ _ _ => False) := by
              intro _ 
              refine mx_istoreE (i := 9) (ls' := [some (.ref q), some (.int (nI here)), some (.int (nI ps)), some (.int (nI r)), some (.int (nI (g + 1))), some (.int (nI n)), some (.int (nI (pFol A ps))), some (.int (nI s)), some (.int (nI d)), some (.int (nI (if (if d = 0 then gF v s else gT v s) = here then pFol A ps &&& pEn A d (gK v s) else 0)))]) (hd := dX9_countFitting_88) (hn := by decide) (hok := rfl) (hls := rfl) ?_
              refine mx_iload (i := 9) (hl := rfl) (hd := dX9_countFitting_90) ?_
              refine mx_ifN_eq 119 dX9_countFitting_92 (by decide) (ite_lt (Nat.lt_trans (mx_and_lt (b := pEn A d (gK v s)) (pFol_lt hwp ps)) (by decide)) (by decide)) (fun c92 => ?_) (fun c92 => ?_)
              · skip
                refine mx_iincE (i := 8) (ls' := [some (.ref q), some (.int (nI here)), some (.int (nI ps)), some (.int (nI r)), some (.int (nI (g + 1))), some (.int (nI n)), some (.int (nI (pFol A ps))), some (.int (nI s)), some (.int (nI (d + 1))), some (.int (nI (if (if d = 0 then gF v s else gT v s) = here then pFol A ps &&& pEn A d (gK v s) else 0)))]) 1 dX9_countFitting_119 rfl (by decide) (by decide) rfl rfl ?_
                refine mx_goto (tgt := 56) dX9_countFitting_122 (by decide) ?_
                refine mx_leS (ls' := [some (.ref q), some (.int (nI here)), some (.int (nI ps)), some (.int (nI r)), some (.int (nI (g + 1))), some (.int (nI n)), some (.int (nI (pFol A ps))), some (.int (nI s)), some (.int (nI (d + 1))), none]) ⟨rfl, rfl, rfl, rfl, rfl, rfl, rfl, rfl, rfl, trivial⟩ ?_
                exact ih2 (d + 1) _ (by omega) (by omega) hsl (by rw [hxd]; show _ = _ + _ + (smD _ d + cfT v A r g here ps s d); rw [cfT_0 c92, Nat.add_zero])
              · skip
                refine mx_iload (i := 5) (hl := rfl) (hd := dX9_countFitting_95) ?_
                refine mx_aload_n (i := 0) (hi := rfl) (hl := rfl) (hd := dX9_countFitting_97) ?_
                refine mx_aload_n (i := 0) (hi := rfl) (hl := rfl) (hd := dX9_countFitting_98) ?_
                refine mx_iload (i := 7) (hl := rfl) (hd := dX9_countFitting_99) ?_
                refine mx_iload (i := 8) (hl := rfl) (hd := dX9_countFitting_101) ?_
                refine mx_callVp (ci := 6) (As := [.int (nI s), .int (nI d)]) (rest := [.ref q, .int (nI n)]) dX9_countFitting_103 (ct_endOf G I q v hsq0 hvq0 s d hsl (by omega)) km_X6_endOf rfl k_924 k_903 k_904 (by assumption) rfl rfl (Nat.le_of_ble_eq_true rfl) (by omega) ?_
                refine mx_iload (i := 9) (hl := rfl) (hd := dX9_countFitting_106) ?_
                refine mx_iload_n (i := 3) (hi := rfl) (hl := rfl) (hd := dX9_countFitting_108) ?_
                refine mx_iload (i := 4) (hl := rfl) (hd := dX9_countFitting_109) ?_
                refine mx_iconstN 1 dX9_countFitting_111 (by decide) ?_
                refine mx_isubN dX9_countFitting_112 (by omega) ?_
                refine mx_top (y := nI g) (congrArg nI (by omega)) ?_
                refine mx_callSp (As := [.ref q, .int (nI (if d = 0 then gT v s else gF v s)), .int (nI (if (if d = 0 then gF v s else gT v s) = here then pFol A ps &&& pEn A d (gK v s) else 0)), .int (nI r), .int (nI g)]) (rest := [.int (nI n)]) dX9_countFitting_113 (ihg (if d = 0 then gT v s else gF v s) (if (if d = 0 then gF v s else gT v s) = here then pFol A ps &&& pEn A d (gK v s) else 0) (by have := hb s hsl; split <;> omega) (ite_lt (mx_and_lt (b := pEn A d (gK v s)) (pFol_lt hwp ps)) (by decide))) km_X9_countFitting rfl k_918 k_919 rfl rfl (Nat.le_of_ble_eq_true rfl) (by omega) ?_
                refine mx_iaddN dX9_countFitting_116 ?_
                refine mx_istoreE (i := 5) (ls' := [some (.ref q), some (.int (nI here)), some (.int (nI ps)), some (.int (nI r)), some (.int (nI (g + 1))), some (.int (nI (n + (cF v A r g (if d = 0 then gT v s else gF v s) (if (if d = 0 then gF v s else gT v s) = here then pFol A ps &&& pEn A d (gK v s) else 0))))), some (.int (nI (pFol A ps))), some (.int (nI s)), some (.int (nI d)), some (.int (nI (if (if d = 0 then gF v s else gT v s) = here then pFol A ps &&& pEn A d (gK v s) else 0)))]) (hd := dX9_countFitting_117) (hn := by decide) (hok := rfl) (hls := rfl) ?_
                refine mx_iincE (i := 8) (ls' := [some (.ref q), some (.int (nI here)), some (.int (nI ps)), some (.int (nI r)), some (.int (nI (g + 1))), some (.int (nI (n + (cF v A r g (if d = 0 then gT v s else gF v s) (if (if d = 0 then gF v s else gT v s) = here then pFol A ps &&& pEn A d (gK v s) else 0))))), some (.int (nI (pFol A ps))), some (.int (nI s)), some (.int (nI (d + 1))), some (.int (nI (if (if d = 0 then gF v s else gT v s) = here then pFol A ps &&& pEn A d (gK v s) else 0)))]) 1 dX9_countFitting_119 rfl (by decide) (by decide) rfl rfl ?_
                refine mx_goto (tgt := 56) dX9_countFitting_122 (by decide) ?_
                refine mx_leS (ls' := [some (.ref q), some (.int (nI here)), some (.int (nI ps)), some (.int (nI r)), some (.int (nI (g + 1))), some (.int (nI (n + (cF v A r g (if d = 0 then gT v s else gF v s) (if (if d = 0 then gF v s else gT v s) = here then pFol A ps &&& pEn A d (gK v s) else 0))))), some (.int (nI (pFol A ps))), some (.int (nI s)), some (.int (nI (d + 1))), none]) ⟨rfl, rfl, rfl, rfl, rfl, rfl, rfl, rfl, rfl, trivial⟩ ?_
                exact ih2 (d + 1) _ (by omega) (by omega) hsl (by rw [hxd]; show _ = _ + _ + (smD _ d + cfT v A r g here ps s d); rw [cfT_1 c92, Nat.add_assoc])
            refine mx_aload_n (i := 0) (hi := rfl) (hl := rfl) (hd := dX9_countFitting_62) ?_
            refine mx_iload (i := 7) (hl := rfl) (hd := dX9_countFitting_63) ?_
            refine mx_iload (i := 8) (hl := rfl) (hd := dX9_countFitting_65) ?_
            refine mx_callVp (ci := 6) (As := [.int (nI s), .int (nI d)]) (rest := []) dX9_countFitting_67 (ct_beginOf G I q v hsq0 hvq0 s d hsl (by omega)) km_X6_beginOf rfl k_922 k_899 k_900 (by assumption) rfl rfl (Nat.le_of_ble_eq_true rfl) (by omega) ?_
            refine mx_iload_n (i := 1) (hi := rfl) (hl := rfl) (hd := dX9_countFitting_70) ?_
            refine mx_cmpN_ne 87 dX9_countFitting_71 (by decide) (by have := hb s hsl; split <;> omega) (by omega) (fun c71 => ?_) (fun c71 => ?_)
            · skip
              refine mx_iconstN 0 dX9_countFitting_87 (by decide) ?_
              refine mx_top (y := nI (if (if d = 0 then gF v s else gT v s) = here then pFol A ps &&& pEn A d (gK v s) else 0)) (by rw [if_neg c71]) ?_
              exact J88 ()
            · skip
              refine mx_aload_n (i := 0) (hi := rfl) (hl := rfl) (hd := dX9_countFitting_74) ?_
              refine mx_iload (i := 6) (hl := rfl) (hd := dX9_countFitting_75) ?_
              refine mx_iload (i := 7) (hl := rfl) (hd := dX9_countFitting_77) ?_
              refine mx_iload (i := 8) (hl := rfl) (hd := dX9_countFitting_79) ?_
              refine mx_callVp (ci := 6) (As := [.int (nI (pFol A ps)), .int (nI s), .int (nI d)]) (rest := []) dX9_countFitting_81 (ct_enter G I q pt v A he0 (pFol A ps) s d hsl (by omega)) km_X6_enter rfl k_923 k_575 k_576 (by assumption) rfl rfl (Nat.le_of_ble_eq_true rfl) (by omega) ?_
              refine mx_goto (tgt := 88) dX9_countFitting_84 (by decide) ?_
              refine mx_top (y := nI (if (if d = 0 then gF v s else gT v s) = here then pFol A ps &&& pEn A d (gK v s) else 0)) (by rw [if_pos c71]) ?_
              exact J88 ()
      refine mx_iload (i := 7) (hl := rfl) (hd := dX9_countFitting_44) ?_
      refine mx_aload_n (i := 0) (hi := rfl) (hl := rfl) (hd := dX9_countFitting_46) ?_
      refine mx_getV (ci := 6) (k := 1) (nI (gN v)) dX9_countFitting_47 k_170 (by decide) rfl (by assumption) hv1 ?_
      refine mx_cmpN_ge 131 dX9_countFitting_50 (by decide) (by omega) (by omega) (fun c50 => ?_) (fun c50 => ?_)
      · skip
        refine mx_iload (i := 5) (hl := rfl) (hd := dX9_countFitting_131) ?_
        exact mx_iret dX9_countFitting_133 rfl rfl (⟨by rw [hx, show s = gN v by omega]; rfl, rfl, rfl⟩)
      · skip
        refine mx_iconstN 0 dX9_countFitting_53 (by decide) ?_
        refine mx_istoreE (i := 8) (ls' := [some (.ref q), some (.int (nI here)), some (.int (nI ps)), some (.int (nI r)), some (.int (nI (g + 1))), some (.int (nI n)), some (.int (nI (pFol A ps))), some (.int (nI s)), some (.int (nI 0)), none]) (hd := dX9_countFitting_54) (hn := by decide) (hok := rfl) (hls := rfl) ?_
        exact L56 _ 0 _ (Nat.lt_succ_self _) (by decide) (by omega) hx
  have J21 : ∀ (_ : Unit), mx_V mX9_countFitting mx_S0 (g + 3) 0 0 21 [some (.ref q), some (.int (nI here)), some (.int (nI ps)), some (.int (nI r)), some (.int (nI (g + 1))), none, none, none, none, none] [.int (nI (if here = r ∧ ¬ ps &&& pAc A = 0 then 1 else 0))] G I (fun rv Gz Iz => rv = some (.int (nI (cF v A r (g + 1) here ps))) ∧ Gz = G ∧ Iz = I) (fun _ _ _ => False) := by
    intro _ 
    refine mx_istoreE (i := 5) (ls' := [some (.ref q), some (.int (nI here)), some (.int (nI ps)), some (.int (nI r)), some (.int (nI (g + 1))), some (.int (nI (if here = r ∧ ¬ ps &&& pAc A = 0 then 1 else 0))), none, none, none, none]) (hd := dX9_countFitting_21) (hn := by decide) (hok := rfl) (hls := rfl) ?_
    refine mx_iload (i := 4) (hl := rfl) (hd := dX9_countFitting_23) ?_
    refine mx_ifN_gt 31 dX9_countFitting_25 (by decide) (by omega) (fun c25 => ?_) (fun c25 => ?_)
    · skip
      refine mx_aload_n (i := 0) (hi := rfl) (hl := rfl) (hd := dX9_countFitting_31) ?_
      refine mx_getR (ci := 6) (k := 6) (r := pt) dX9_countFitting_32 k_193 (by decide) rfl (by assumption) (by assumption) (by omega) ?_
      refine mx_iload_n (i := 2) (hi := rfl) (hl := rfl) (hd := dX9_countFitting_35) ?_
      refine mx_callVp (ci := 2) (As := [.int (nI ps)]) (rest := []) dX9_countFitting_36 (ct_following G I pt A hsp0 hvp0 ps hps) km_X2_following rfl k_921 k_567 k_568 (by assumption) rfl rfl (Nat.le_of_ble_eq_true rfl) (by omega) ?_
      refine mx_istoreE (i := 6) (ls' := [some (.ref q), some (.int (nI here)), some (.int (nI ps)), some (.int (nI r)), some (.int (nI (g + 1))), some (.int (nI (if here = r ∧ ¬ ps &&& pAc A = 0 then 1 else 0))), some (.int (nI (pFol A ps))), none, none, none]) (hd := dX9_countFitting_39) (hn := by decide) (hok := rfl) (hls := rfl) ?_
      refine mx_iconstN 0 dX9_countFitting_41 (by decide) ?_
      refine mx_istoreE (i := 7) (ls' := [some (.ref q), some (.int (nI here)), some (.int (nI ps)), some (.int (nI r)), some (.int (nI (g + 1))), some (.int (nI (if here = r ∧ ¬ ps &&& pAc A = 0 then 1 else 0))), some (.int (nI (pFol A ps))), some (.int (nI 0)), none, none]) (hd := dX9_countFitting_42) (hn := by decide) (hok := rfl) (hls := rfl) ?_
      exact L44 _ 0 _ (Nat.lt_succ_self _) (Nat.zero_le _) rfl
    · skip
      exact absurd c25 (by omega)
  refine mx_iload_n (i := 1) (hi := rfl) (hl := rfl) (hd := dX9_countFitting_0) ?_
  refine mx_iload_n (i := 3) (hi := rfl) (hl := rfl) (hd := dX9_countFitting_1) ?_
  refine mx_cmpN_ne 20 dX9_countFitting_2 (by decide) (by omega) (by omega) (fun c2 => ?_) (fun c2 => ?_)
  · skip
    refine mx_iconstN 0 dX9_countFitting_20 (by decide) ?_
    refine mx_top (y := nI (if here = r ∧ ¬ ps &&& pAc A = 0 then 1 else 0)) (by rw [if_neg (by first | exact fun z => c2 z.1 | exact fun z => z.2 (Classical.not_not.mp c13) | exact fun z => c13 z.2)]) ?_
    exact J21 ()
  · skip
    refine mx_aload_n (i := 0) (hi := rfl) (hl := rfl) (hd := dX9_countFitting_5) ?_
    refine mx_getR (ci := 6) (k := 6) (r := pt) dX9_countFitting_6 k_193 (by decide) rfl (by assumption) (by assumption) (by omega) ?_
    refine mx_iload_n (i := 2) (hi := rfl) (hl := rfl) (hd := dX9_countFitting_9) ?_
    refine mx_callVp (ci := 2) (As := [.int (nI ps)]) (rest := []) dX9_countFitting_10 (ct_accepts G I pt A hsp0 hvp0 ps hps) km_X2_accepts rfl k_710 k_563 k_564 (by assumption) rfl rfl (Nat.le_of_ble_eq_true rfl) (by omega) ?_
    refine mx_ifB_eq 20 dX9_countFitting_13 (by decide) (fun c13 => ?_) (fun c13 => ?_)
    · skip
      refine mx_iconstN 0 dX9_countFitting_20 (by decide) ?_
      refine mx_top (y := nI (if here = r ∧ ¬ ps &&& pAc A = 0 then 1 else 0)) (by rw [if_neg (by first | exact fun z => c2 z.1 | exact fun z => z.2 (Classical.not_not.mp c13) | exact fun z => c13 z.2)]) ?_
      exact J21 ()
    · skip
      refine mx_iconstN 1 dX9_countFitting_16 (by decide) ?_
      refine mx_goto (tgt := 21) dX9_countFitting_17 (by decide) ?_
      refine mx_top (y := nI (if here = r ∧ ¬ ps &&& pAc A = 0 then 1 else 0)) (by rw [if_pos ⟨by omega, c13⟩]) ?_
      exact J21 ()

theorem ct_countFitting (G : mx_G) (I : mx_I) (q pt : Nat) (v : Gr) (A : Pa) (he : env G I q pt v A) (r : Nat) (hr : r < 8) : ∀ (g : Nat), g < 2 ^ 20 → ∀ (here ps : Nat), here < 8 → ps < 2 ^ 21 → mx_CTp yX9_countFitting mX9_countFitting (g + 2) [.ref q, .int (nI here), .int (nI ps), .int (nI r), .int (nI g)] G I (some (.int (nI (cF v A r g here ps))))
  | 0, _, here, ps, h1, h2 => ct_cf0 G I q pt v A he r here ps hr h1 h2
  | g + 1, hg, here, ps, h1, h2 => ct_cfS G I q pt v A he r here ps hr h1 h2 g (by omega) (ct_countFitting G I q pt v A he r hr g (by omega))
def fl_paths (z : Zs) (p q n : Int32) : Nat := if ¬ ((0 ≤ p.toInt ∧ p.toInt < (gP (zG z) : Int)) ∧ (0 ≤ q.toInt ∧ q.toInt < (gP (zG z) : Int))) then 1 else if ¬ (0 ≤ n.toInt ∧ n.toInt ≤ 4) then 2 else 0
def an_paths (z : Zs) (p q n : Nat) : Nat := cF (zG z) (vA (zX z)) q n p 1
theorem mx_CTp.dp {y : MethodName} {M : mx_MI} {d d' : Nat} {av : List Value} {G : mx_G} {I : mx_I} {r : Option Value} (h : mx_CTp y M d av G I r) (e : d = d') : mx_CTp y M d' av G I r := e ▸ h

set_option maxHeartbeats 400000 in
set_option maxRecDepth 100000 in
theorem ct_paths (G : mx_G) (I : mx_I) (a : Nat) (z : Zs) (hW : cW G I a z) (p q n : Int32) : mx_CT yX9_paths mX9_paths 8 2 12 [.ref a, .int p, .int q, .int n] G I (fun rv Gz Iz => fl_paths z p q n = 0 ∧ rv = some (.int (nI (an_paths z p.toInt.toNat q.toInt.toNat n.toInt.toNat))) ∧ cP G I a z Gz Iz) (fun E Gz Iz => (fl_paths z p q n) ≠ 0 ∧ E = exN (fl_paths z p q n) ∧ cP G I a z Gz Iz) := by
  refine mx_start (k := 0) (by decide) rfl rfl (fun h => nomatch h) (Nat.le_of_ble_eq_true rfl) ?_
  show mx_V mX9_paths mx_S0 8 2 12 0 [some (.ref a), some (.int p), some (.int q), some (.int n)] [] G I (fun rv Gz Iz => fl_paths z p q n = 0 ∧ rv = some (.int (nI (an_paths z p.toInt.toNat q.toInt.toNat n.toInt.toNat))) ∧ cP G I a z Gz Iz) (fun E Gz Iz => (fl_paths z p q n) ≠ 0 ∧ E = exN (fl_paths z p q n) ∧ cP G I a z Gz Iz)
  have hW0 := hW
  obtain ⟨⟨hSP, hsz, hpe⟩, hTx, hSt, hHi, hSl⟩ := hW
  have oSt : oST G (a + 37) := hSP.2.2.2.2.1.2
  obtain ⟨tg9, ⟨f0, oTx⟩, ⟨f1, oPt⟩, ⟨f2, oRd⟩, ⟨f3, -⟩, ⟨f4, oDr⟩, ⟨f5, oHi⟩, ⟨f6, gSl, lSl, ⟨rq0, oS0⟩, ⟨rq1, oS1⟩⟩, ⟨f7, gFi, lFi⟩, ⟨f8, oSe⟩, ⟨f9, oTr⟩, ⟨f10, oBp⟩⟩ := hSP
  have tg0 : mx_tg G (a + 1) = 17 := oTx.1
  have tg1 : mx_tg G (a + 3) = 12 := oPt.1
  have tg2 : mx_tg G (a + 8) = 13 := oRd.1
  have tg3 : mx_tg G (a + 37) = 16 := oSt.1
  have tg4 : mx_tg G (a + 42) = 16 := oDr.1
  have tg5 : mx_tg G (a + 47) = 11 := oHi.1
  have tg6 : mx_tg G (a + 131) = 15 := oSe.1
  have tg7 : mx_tg G (a + 136) = 15 := oTr.1
  have tg8 : mx_tg G (a + 141) = 10 := oBp.1
  obtain ⟨rT, tT, lT⟩ : mx_rf G (a + 1) 0 = a + 2 ∧ mx_tg G (a + 2) = 2 ∧ mx_ln G (a + 2) = 110 := oTx.2
  have oSt0 : oST G (a + 37) := oSt
  obtain ⟨-, ⟨rF, tF, lF⟩, ⟨rK, tK, lK⟩, ⟨rO, tO, lO⟩, ⟨rC, tC, lC⟩⟩ : mx_tg G (a + 37) = 16 ∧ (mx_rf G (a + 37) 2 = a + 38 ∧ mx_tg G (a + 38) = 1 ∧ mx_ln G (a + 38) = 25) ∧ (mx_rf G (a + 37) 3 = a + 39 ∧ mx_tg G (a + 39) = 1 ∧ mx_ln G (a + 39) = 25) ∧ (mx_rf G (a + 37) 4 = a + 40 ∧ mx_tg G (a + 40) = 1 ∧ mx_ln G (a + 40) = 25) ∧ (mx_rf G (a + 37) 5 = a + 41 ∧ mx_tg G (a + 41) = 1 ∧ mx_ln G (a + 41) = 25) := oSt
  have hSv : stN I (a + 37) (zG z) := hSt.1
  obtain ⟨⟨hP8, hN25, hvb⟩, hs0, hs1, hsF, hsK, hsT, hsC⟩ : stN I (a + 37) (zG z) := hSt.1
  have hN24 : gN (zG z) ≤ 24 := hSt.2.1.1
  have hTx0 := hTx
  obtain ⟨hn110, ht1, htc, htb⟩ : txN I (a + 1) (zN z) (zT z) := hTx
  obtain ⟨pt, hpt⟩ : ∃ pt, mx_rf G (a + 37) 6 = pt := ⟨_, rfl⟩
  have he0 : env G I (a + 37) pt (zG z) (vA (zX z)) := by rw [← hpt]; exact hW0.env
  have hpd : pt = a + 3 ∨ a + 146 ≤ pt := by rw [← hpt]; exact hW0.2.2.1.2.2.1
  have hpd5 : pt + 5 ≤ mx_sz G := by rw [← hpt]; exact hW0.2.2.1.2.2.2.1
  have tgp : mx_tg G pt = 12 := he0.2.1.1
  obtain ⟨rch, tch, lch⟩ : mx_rf G pt 0 = pt + 1 ∧ mx_tg G (pt + 1) = 2 ∧ mx_ln G (pt + 1) = 40 := he0.2.1.2.1
  have hpn : ptN I pt (vA (zX z)) := he0.2.2.2.2
  have hwfp : wfP (vA (zX z)) := hpn.1
  have hwfg : wfG (zG z) := he0.2.2.2.1.1
  have hn40 : (zX z).2.1 ≤ 40 := hSt.2.1.2.1
  have hpz : I pt 1 = nI (zX z).2.1 := by
    rw [hpn.2.1, show pSz (vA (zX z)) = min (zX z).2.1 40 from (rdF_sz _ _).1, Nat.min_eq_left hn40]
  have hpl : I pt 2 = nI (pL (vA (zX z))) := hpn.2.2.1
  have hpc : ∀ i, i < (zX z).2.1 → I (pt + 1) i = nI ((zX z).2.2 i) := fun i hi => by
    have h := hpn.2.2.2.2.1 i (by rw [show pSz (vA (zX z)) = min (zX z).2.1 40 from (rdF_sz _ _).1, Nat.min_eq_left hn40]; exact hi)
    rw [h, show pCh (vA (zX z)) = (zX z).2.2 from (rdF_sz _ _).2]
  have hpc8 : ∀ i, i < (zX z).2.1 → (zX z).2.2 i < 256 := hSt.2.1.2.2.2
  have J27 : ∀ (_ : Unit), ((0 ≤ p.toInt ∧ p.toInt < (gP (zG z) : Int)) ∧ (0 ≤ q.toInt ∧ q.toInt < (gP (zG z) : Int))) → mx_V mX9_paths mx_S0 8 1 6 27 [some (.ref a), some (.int p), some (.int q), some (.int n)] [.int (mx_b (decide (0 ≤ n.toInt ∧ n.toInt ≤ 4)))] G I (fun rv Gz Iz => fl_paths z p q n = 0 ∧ rv = some (.int (nI (an_paths z p.toInt.toNat q.toInt.toNat n.toInt.toNat))) ∧ cP G I a z Gz Iz) (fun E Gz Iz => (fl_paths z p q n) ≠ 0 ∧ E = exN (fl_paths z p q n) ∧ cP G I a z Gz Iz) := by
    intro _ k1
    refine mx_iconstN 2 dX9_paths_27 (by decide) ?_
    refine mx_callS (As := [.int (mx_b (decide (0 ≤ n.toInt ∧ n.toInt ≤ 4))), .int (nI 2)]) (rest := []) (b1 := 1) (b2 := 6) dX9_paths_28 (ct_require G I (0 ≤ n.toInt ∧ n.toInt ≤ 4) 2 (by decide)) km_X9_require rfl k_338 k_339 rfl rfl (Nat.le_of_ble_eq_true rfl) (by omega) (fun E G9 I9 h9 => mx_xo rfl (by have hf : fl_paths z p q n = 2 := (by unfold fl_paths; rw [if_neg (fun q => q k1), if_pos h9.1]); show (fl_paths z p q n) ≠ 0 ∧ E = exN (fl_paths z p q n) ∧ cP G I a z G9 I9; rw [hf]; exact ⟨by decide, hW0.id.thw h9.2.2⟩)) (fun r1 G3 I2 h4 => ?_)
    obtain ⟨e0, e1, e2, e3⟩ := h4
    have e2 := e2.symm
    subst e1; subst e2; subst e3
    have k2 : 0 ≤ n.toInt ∧ n.toInt ≤ 4 := e0.resolve_right (by decide)
    clear e0
    refine mx_aload_n (i := 0) (hi := rfl) (hl := rfl) (hd := dX9_paths_31) ?_
    refine mx_getR (ci := 9) (k := 3) (r := (a + 37)) dX9_paths_32 k_299 (by decide) rfl (by assumption) (by assumption) (by omega) ?_
    refine mx_iload_n (i := 1) (hi := rfl) (hl := rfl) (hd := dX9_paths_35) ?_
    refine mx_iconstN 1 dX9_paths_36 (by decide) ?_
    refine mx_iload_n (i := 2) (hi := rfl) (hl := rfl) (hd := dX9_paths_37) ?_
    refine mx_iload_n (i := 3) (hi := rfl) (hl := rfl) (hd := dX9_paths_38) ?_
    refine mx_callSp (As := [.ref (a + 37), .int p, .int (nI 1), .int q, .int n]) (rest := []) dX9_paths_39 ((ct_countFitting G I (a + 37) pt _ _ he0 q.toInt.toNat (by omega) n.toInt.toNat (by omega) p.toInt.toNat 1 (by omega) (by decide)).eq (by rw [mx_nn k1.1.1, mx_nn k1.2.1, mx_nn k2.1]) rfl) km_X9_countFitting rfl k_918 k_919 rfl rfl (Nat.le_of_ble_eq_true rfl) (by omega) ?_
    exact mx_iret dX9_paths_42 rfl rfl (⟨by unfold fl_paths; rw [if_neg (fun q => q k1), if_neg (fun q => q k2)], rfl, hW0.id⟩)
  refine mx_aload_n (i := 0) (hi := rfl) (hl := rfl) (hd := dX9_paths_0) ?_
  refine mx_getR (ci := 9) (k := 3) (r := (a + 37)) dX9_paths_1 k_299 (by decide) rfl (by assumption) (by assumption) (by omega) ?_
  refine mx_iload_n (i := 1) (hi := rfl) (hl := rfl) (hd := dX9_paths_4) ?_
  refine mx_iload_n (i := 2) (hi := rfl) (hl := rfl) (hd := dX9_paths_5) ?_
  refine mx_callVp (ci := 6) (As := [.int p, .int q]) (rest := []) dX9_paths_6 (ct_hasPeople G I (a + 37) _ oSt0 hSv p q) km_X6_hasPeople rfl k_533 k_466 k_467 (by assumption) rfl rfl (Nat.le_of_ble_eq_true rfl) (by omega) ?_
  refine mx_iconstN 1 dX9_paths_9 (by decide) ?_
  refine mx_callS (As := [.int (mx_b (decide ((0 ≤ p.toInt ∧ p.toInt < (gP (zG z) : Int)) ∧ (0 ≤ q.toInt ∧ q.toInt < (gP (zG z) : Int))))), .int (nI 1)]) (rest := []) (b1 := 1) (b2 := 6) dX9_paths_10 (ct_require G I ((0 ≤ p.toInt ∧ p.toInt < (gP (zG z) : Int)) ∧ (0 ≤ q.toInt ∧ q.toInt < (gP (zG z) : Int))) 1 (by decide)) km_X9_require rfl k_338 k_339 rfl rfl (Nat.le_of_ble_eq_true rfl) (by omega) (fun E G9 I9 h9 => mx_xo rfl (by have hf : fl_paths z p q n = 1 := (by unfold fl_paths; rw [if_pos h9.1]); show (fl_paths z p q n) ≠ 0 ∧ E = exN (fl_paths z p q n) ∧ cP G I a z G9 I9; rw [hf]; exact ⟨by decide, hW0.id.thw h9.2.2⟩)) (fun r5 G7 I6 h8 => ?_)
  obtain ⟨e0, e1, e2, e3⟩ := h8
  have e2 := e2.symm
  subst e1; subst e2; subst e3
  have k1 : (0 ≤ p.toInt ∧ p.toInt < (gP (zG z) : Int)) ∧ (0 ≤ q.toInt ∧ q.toInt < (gP (zG z) : Int)) := e0.resolve_right (by decide)
  clear e0
  refine mx_iload_n (i := 3) (hi := rfl) (hl := rfl) (hd := dX9_paths_13) ?_
  refine mx_ifR_lt 26 dX9_paths_14 (by decide) (fun c14 => ?_) (fun c14 => ?_)
  · skip
    refine mx_iconstN 0 dX9_paths_26 (by decide) ?_
    refine mx_top (y := mx_b (decide (0 ≤ n.toInt ∧ n.toInt ≤ 4))) (mx_bF (by omega)) ?_
    exact J27 () k1
  · skip
    refine mx_iload_n (i := 3) (hi := rfl) (hl := rfl) (hd := dX9_paths_17) ?_
    refine mx_iconstN 4 dX9_paths_18 (by decide) ?_
    refine mx_cmpRN_gt 26 dX9_paths_19 (by decide) (by omega) (fun c19 => ?_) (fun c19 => ?_)
    · skip
      refine mx_iconstN 0 dX9_paths_26 (by decide) ?_
      refine mx_top (y := mx_b (decide (0 ≤ n.toInt ∧ n.toInt ≤ 4))) (mx_bF (by omega)) ?_
      exact J27 () k1
    · skip
      refine mx_iconstN 1 dX9_paths_22 (by decide) ?_
      refine mx_goto (tgt := 27) dX9_paths_23 (by decide) ?_
      refine mx_top (y := mx_b (decide (0 ≤ n.toInt ∧ n.toInt ≤ 4))) (mx_bT (by omega)) ?_
      exact J27 () k1
