/-! WHAT IS NOT REFUSED makes no new cells: step and pathAt, and the law's calls of them -/
set_option maxHeartbeats 4000000 in
set_option maxRecDepth 100000 in
theorem ct_refuseT (G : mx_G) (I : mx_I)  : mx_CTp yX9_refuse mX9_refuse 6 [.int (nI 0)] G I (none) := by
  refine mx_start (k := 0) (by decide) rfl rfl (fun h => nomatch h) (Nat.le_of_ble_eq_true rfl) ?_
  show mx_V mX9_refuse mx_S0 6 0 0 0 [some (.int (nI 0))] [] G I (fun rv Gz Iz => rv = none ∧ Gz = G ∧ Iz = I) (fun _ _ _ => False)
  refine mx_iload_n (i := 0) (hi := rfl) (hl := rfl) (hd := dX9_refuse_0) ?_
  refine mx_iconstN 1 dX9_refuse_1 (by decide) ?_
  refine mx_cmpN_ne 16 dX9_refuse_2 (by decide) (by omega) (by omega) (fun c2 => ?_) (fun c2 => ?_)
  · skip
    refine mx_iload_n (i := 0) (hi := rfl) (hl := rfl) (hd := dX9_refuse_16) ?_
    refine mx_iconstN 2 dX9_refuse_17 (by decide) ?_
    refine mx_cmpN_ne 32 dX9_refuse_18 (by decide) (by omega) (by omega) (fun c18 => ?_) (fun c18 => ?_)
    · skip
      refine mx_iload_n (i := 0) (hi := rfl) (hl := rfl) (hd := dX9_refuse_32) ?_
      refine mx_iconstN 3 dX9_refuse_33 (by decide) ?_
      refine mx_cmpN_ne 48 dX9_refuse_34 (by decide) (by omega) (by omega) (fun c34 => ?_) (fun c34 => ?_)
      · skip
        exact mx_vret dX9_refuse_48 rfl (⟨rfl, rfl, rfl⟩)
      · skip
        exact absurd c34 (by decide)
    · skip
      exact absurd c18 (by decide)
  · skip
    exact absurd c2 (by decide)

set_option maxHeartbeats 4000000 in
set_option maxRecDepth 100000 in
theorem ct_requireT (G : mx_G) (I : mx_I) (c : Prop) [Decidable c] (hc : c) (f : Nat) : mx_CTp yX9_require mX9_require 7 [.int (mx_b (decide (c))), .int (nI f)] G I (none) := by
  refine mx_start (k := 0) (by decide) rfl rfl (fun h => nomatch h) (Nat.le_of_ble_eq_true rfl) ?_
  show mx_V mX9_require mx_S0 7 0 0 0 [some (.int (mx_b (decide (c)))), some (.int (nI f))] [] G I (fun rv Gz Iz => rv = none ∧ Gz = G ∧ Iz = I) (fun _ _ _ => False)
  refine mx_iload_n (i := 0) (hi := rfl) (hl := rfl) (hd := dX9_require_0) ?_
  refine mx_ifB_eq 8 dX9_require_1 (by decide) (fun c1 => ?_) (fun c1 => ?_)
  · skip
    exact absurd hc c1
  · skip
    refine mx_iconstN 0 dX9_require_4 (by decide) ?_
    refine mx_goto (tgt := 9) dX9_require_5 (by decide) ?_
    refine mx_callSp (As := [.int (nI 0)]) (rest := []) dX9_require_9 (ct_refuseT G I) km_X9_refuse rfl k_341 k_342 rfl rfl (Nat.le_of_ble_eq_true rfl) (by decide) ?_
    exact mx_vret dX9_require_12 rfl (⟨rfl, rfl, rfl⟩)

set_option maxHeartbeats 400000 in
set_option maxRecDepth 100000 in
theorem ct_stepT (G : mx_G) (I : mx_I) (a : Nat) (z : Zs) (hW : cW G I a z) (s w : Nat) (hs : s < gN (zG z)) (hw : w < 4) : mx_CTp yX9_step mX9_step 8 [.ref a, .int (nI s), .int (nI w)] G I (some (.int (nI (an_step z s w)))) := by
  refine mx_start (k := 0) (by decide) rfl rfl (fun h => nomatch h) (Nat.le_of_ble_eq_true rfl) ?_
  show mx_V mX9_step mx_S0 8 0 0 0 [some (.ref a), some (.int (nI s)), some (.int (nI w))] [] G I (fun rv Gz Iz => rv = some (.int (nI (an_step z s w))) ∧ Gz = G ∧ Iz = I) (fun _ _ _ => False)
  have hW0 := hW
  obtain ⟨⟨hSP, hsz, hpe⟩, hTx, hSt, hHi, hSl⟩ := hW
  have oSt : oST G (a + 37) := hSP.2.2.2.2.1.2
  obtain ⟨tg9, ⟨f0, oTx⟩, ⟨f1, oPt⟩, ⟨f2, oRd⟩, ⟨f3, -⟩, ⟨f4, oDr⟩, ⟨f5, oHi⟩, ⟨f6, gSl, lSl, ⟨rq0, oS0⟩, ⟨rq1, oS1⟩⟩, ⟨f7, gFi, lFi⟩, ⟨f8, oSe⟩, ⟨f9, oTr⟩, ⟨f10, oBp⟩⟩ := hSP
  have tg0 : mx_tg G (a + 1) = 17 := oTx.1
  have tg1 : mx_tg G (a + 3) = 12 := oPt.1
  have tg2 : mx_tg G (a + 8) = 13 := oRd.1
  have tg3 : mx_tg G (a + 37) = 16 := oSt.1
  have tg4 : mx_tg G (a + 42) = 16 := oDr.1
  have tg5 : mx_tg G (a + 47) = 11 := oHi.1
  have tg6 : mx_tg G (a + 131) = 15 := oSe.1
  have tg7 : mx_tg G (a + 136) = 15 := oTr.1
  have tg8 : mx_tg G (a + 141) = 10 := oBp.1
  obtain ⟨rT, tT, lT⟩ : mx_rf G (a + 1) 0 = a + 2 ∧ mx_tg G (a + 2) = 2 ∧ mx_ln G (a + 2) = 110 := oTx.2
  have oSt0 : oST G (a + 37) := oSt
  obtain ⟨-, ⟨rF, tF, lF⟩, ⟨rK, tK, lK⟩, ⟨rO, tO, lO⟩, ⟨rC, tC, lC⟩⟩ : mx_tg G (a + 37) = 16 ∧ (mx_rf G (a + 37) 2 = a + 38 ∧ mx_tg G (a + 38) = 1 ∧ mx_ln G (a + 38) = 25) ∧ (mx_rf G (a + 37) 3 = a + 39 ∧ mx_tg G (a + 39) = 1 ∧ mx_ln G (a + 39) = 25) ∧ (mx_rf G (a + 37) 4 = a + 40 ∧ mx_tg G (a + 40) = 1 ∧ mx_ln G (a + 40) = 25) ∧ (mx_rf G (a + 37) 5 = a + 41 ∧ mx_tg G (a + 41) = 1 ∧ mx_ln G (a + 41) = 25) := oSt
  have hSv : stN I (a + 37) (zG z) := hSt.1
  obtain ⟨⟨hP8, hN25, hvb⟩, hs0, hs1, hsF, hsK, hsT, hsC⟩ : stN I (a + 37) (zG z) := hSt.1
  have hN24 : gN (zG z) ≤ 24 := hSt.2.1.1
  have hTx0 := hTx
  obtain ⟨hn110, ht1, htc, htb⟩ : txN I (a + 1) (zN z) (zT z) := hTx
  refine mx_aload_n (i := 0) (hi := rfl) (hl := rfl) (hd := dX9_step_0) ?_
  refine mx_getR (ci := 9) (k := 3) (r := (a + 37)) dX9_step_1 k_299 (by decide) rfl (by assumption) (by assumption) (by omega) ?_
  refine mx_iload_n (i := 1) (hi := rfl) (hl := rfl) (hd := dX9_step_4) ?_
  refine mx_callVp (ci := 6) (As := [.int (nI s)]) (rest := []) dX9_step_5 (ct_hasStepN G I (a + 37) _ oSt0 hSv s (by omega)) km_X6_hasStep rfl k_491 k_492 k_493 (by assumption) rfl rfl (Nat.le_of_ble_eq_true rfl) (by decide) ?_
  refine mx_iconstN 1 dX9_step_8 (by decide) ?_
  refine mx_callSp (As := [.int (mx_b (decide (s < gN (zG z)))), .int (nI 1)]) (rest := []) dX9_step_9 (ct_requireT G I (s < gN (zG z)) hs 1) km_X9_require rfl k_338 k_339 rfl rfl (Nat.le_of_ble_eq_true rfl) (by decide) ?_
  refine mx_iload_n (i := 2) (hi := rfl) (hl := rfl) (hd := dX9_step_12) ?_
  refine mx_ifN_lt 25 dX9_step_13 (by decide) (by omega) (fun c13 => ?_) (fun c13 => ?_)
  · skip
    exact absurd c13 (Nat.not_lt_zero _)
  · skip
    refine mx_iload_n (i := 2) (hi := rfl) (hl := rfl) (hd := dX9_step_16) ?_
    refine mx_iconstN 3 dX9_step_17 (by decide) ?_
    refine mx_cmpN_gt 25 dX9_step_18 (by decide) (by omega) (by decide) (fun c18 => ?_) (fun c18 => ?_)
    · skip
      exact absurd hw (by omega)
    · skip
      refine mx_iconstN 1 dX9_step_21 (by decide) ?_
      refine mx_top (y := mx_b (decide (w < 4))) (mx_bT hw) ?_
      refine mx_goto (tgt := 26) dX9_step_22 (by decide) ?_
      refine mx_iconstN 2 dX9_step_26 (by decide) ?_
      refine mx_callSp (As := [.int (mx_b (decide (w < 4))), .int (nI 2)]) (rest := []) dX9_step_27 (ct_requireT G I (w < 4) hw 2) km_X9_require rfl k_338 k_339 rfl rfl (Nat.le_of_ble_eq_true rfl) (by decide) ?_
      refine mx_iload_n (i := 2) (hi := rfl) (hl := rfl) (hd := dX9_step_30) ?_
      rcases (show w = 0 ∨ w = 1 ∨ w = 2 ∨ w = 3 by omega) with rfl | rfl | rfl | rfl
      · skip
        refine mx_tabIn (tgt := 56) dX9_step_31 (by decide) (by decide) rfl (by decide) ?_
        refine mx_aload_n (i := 0) (hi := rfl) (hl := rfl) (hd := dX9_step_56) ?_
        refine mx_getR (ci := 9) (k := 3) (r := (a + 37)) dX9_step_57 k_299 (by decide) rfl (by assumption) (by assumption) (by omega) ?_
        refine mx_getR (ci := 6) (k := 2) (r := (a + 38)) dX9_step_60 k_175 (by decide) rfl (by assumption) (by assumption) (by omega) ?_
        refine mx_iload_n (i := 1) (hi := rfl) (hl := rfl) (hd := dX9_step_63) ?_
        refine mx_ialdV s (nI (gF (zG z) s)) dX9_step_64 (by assumption) ⟨rfl, by omega, by omega⟩ (hsF s (by omega)) ?_
        exact mx_iret dX9_step_65 rfl rfl (⟨rfl, rfl, rfl⟩)
      · skip
        refine mx_tabIn (tgt := 66) dX9_step_31 (by decide) (by decide) rfl (by decide) ?_
        refine mx_aload_n (i := 0) (hi := rfl) (hl := rfl) (hd := dX9_step_66) ?_
        refine mx_getR (ci := 9) (k := 3) (r := (a + 37)) dX9_step_67 k_299 (by decide) rfl (by assumption) (by assumption) (by omega) ?_
        refine mx_getR (ci := 6) (k := 3) (r := (a + 39)) dX9_step_70 k_180 (by decide) rfl (by assumption) (by assumption) (by omega) ?_
        refine mx_iload_n (i := 1) (hi := rfl) (hl := rfl) (hd := dX9_step_73) ?_
        refine mx_ialdV s (nI (gK (zG z) s)) dX9_step_74 (by assumption) ⟨rfl, by omega, by omega⟩ (hsK s (by omega)) ?_
        exact mx_iret dX9_step_75 rfl rfl (⟨rfl, rfl, rfl⟩)
      · skip
        refine mx_tabIn (tgt := 76) dX9_step_31 (by decide) (by decide) rfl (by decide) ?_
        refine mx_aload_n (i := 0) (hi := rfl) (hl := rfl) (hd := dX9_step_76) ?_
        refine mx_getR (ci := 9) (k := 3) (r := (a + 37)) dX9_step_77 k_299 (by decide) rfl (by assumption) (by assumption) (by omega) ?_
        refine mx_getR (ci := 6) (k := 4) (r := (a + 40)) dX9_step_80 k_183 (by decide) rfl (by assumption) (by assumption) (by omega) ?_
        refine mx_iload_n (i := 1) (hi := rfl) (hl := rfl) (hd := dX9_step_83) ?_
        refine mx_ialdV s (nI (gT (zG z) s)) dX9_step_84 (by assumption) ⟨rfl, by omega, by omega⟩ (hsT s (by omega)) ?_
        exact mx_iret dX9_step_85 rfl rfl (⟨rfl, rfl, rfl⟩)
      · skip
        refine mx_tabOut (tgt := 86) dX9_step_31 (by decide) (by decide) ?_
        refine mx_aload_n (i := 0) (hi := rfl) (hl := rfl) (hd := dX9_step_86) ?_
        refine mx_getR (ci := 9) (k := 3) (r := (a + 37)) dX9_step_87 k_299 (by decide) rfl (by assumption) (by assumption) (by omega) ?_
        refine mx_getR (ci := 6) (k := 5) (r := (a + 41)) dX9_step_90 k_188 (by decide) rfl (by assumption) (by assumption) (by omega) ?_
        refine mx_iload_n (i := 1) (hi := rfl) (hl := rfl) (hd := dX9_step_93) ?_
        refine mx_ialdV s (nI (gC (zG z) s)) dX9_step_94 (by assumption) ⟨rfl, by omega, by omega⟩ (hsC s (by omega)) ?_
        exact mx_iret dX9_step_95 rfl rfl (⟨rfl, rfl, rfl⟩)

set_option maxHeartbeats 400000 in
set_option maxRecDepth 100000 in
theorem ct_pathAtT (G : mx_G) (I : mx_I) (a : Nat) (z : Zs) (hW : cW G I a z) (p q i : Nat) (hp : p < gP (zG z)) (hq : q < gP (zG z)) (hi : i < 2 ^ 31) : mx_CTi yX9_pathAt mX9_pathAt 8 [.ref a, .int (nI p), .int (nI q), .int (nI i)] G I (fun rv I1 => rv = some (.int (oI (an_pathAt z p q i))) ∧ cP G I a z G I1) := by
  refine mx_start (k := 0) (by decide) rfl rfl (fun h => nomatch h) (Nat.le_of_ble_eq_true rfl) ?_
  show mx_V mX9_pathAt mx_S0 8 0 0 0 [some (.ref a), some (.int (nI p)), some (.int (nI q)), some (.int (nI i))] [] G I (fun rv Gz Iz => (fun rv I1 => rv = some (.int (oI (an_pathAt z p q i))) ∧ cP G I a z G I1) rv Iz ∧ Gz = G) (fun _ _ _ => False)
  have hW0 := hW
  obtain ⟨⟨hSP, hsz, hpe⟩, hTx, hSt, hHi, hSl⟩ := hW
  have oSt : oST G (a + 37) := hSP.2.2.2.2.1.2
  obtain ⟨tg9, ⟨f0, oTx⟩, ⟨f1, oPt⟩, ⟨f2, oRd⟩, ⟨f3, -⟩, ⟨f4, oDr⟩, ⟨f5, oHi⟩, ⟨f6, gSl, lSl, ⟨rq0, oS0⟩, ⟨rq1, oS1⟩⟩, ⟨f7, gFi, lFi⟩, ⟨f8, oSe⟩, ⟨f9, oTr⟩, ⟨f10, oBp⟩⟩ := hSP
  have tg0 : mx_tg G (a + 1) = 17 := oTx.1
  have tg1 : mx_tg G (a + 3) = 12 := oPt.1
  have tg2 : mx_tg G (a + 8) = 13 := oRd.1
  have tg3 : mx_tg G (a + 37) = 16 := oSt.1
  have tg4 : mx_tg G (a + 42) = 16 := oDr.1
  have tg5 : mx_tg G (a + 47) = 11 := oHi.1
  have tg6 : mx_tg G (a + 131) = 15 := oSe.1
  have tg7 : mx_tg G (a + 136) = 15 := oTr.1
  have tg8 : mx_tg G (a + 141) = 10 := oBp.1
  obtain ⟨rT, tT, lT⟩ : mx_rf G (a + 1) 0 = a + 2 ∧ mx_tg G (a + 2) = 2 ∧ mx_ln G (a + 2) = 110 := oTx.2
  have oSt0 : oST G (a + 37) := oSt
  obtain ⟨-, ⟨rF, tF, lF⟩, ⟨rK, tK, lK⟩, ⟨rO, tO, lO⟩, ⟨rC, tC, lC⟩⟩ : mx_tg G (a + 37) = 16 ∧ (mx_rf G (a + 37) 2 = a + 38 ∧ mx_tg G (a + 38) = 1 ∧ mx_ln G (a + 38) = 25) ∧ (mx_rf G (a + 37) 3 = a + 39 ∧ mx_tg G (a + 39) = 1 ∧ mx_ln G (a + 39) = 25) ∧ (mx_rf G (a + 37) 4 = a + 40 ∧ mx_tg G (a + 40) = 1 ∧ mx_ln G (a + 40) = 25) ∧ (mx_rf G (a + 37) 5 = a + 41 ∧ mx_tg G (a + 41) = 1 ∧ mx_ln G (a + 41) = 25) := oSt
  have hSv : stN I (a + 37) (zG z) := hSt.1
  obtain ⟨⟨hP8, hN25, hvb⟩, hs0, hs1, hsF, hsK, hsT, hsC⟩ : stN I (a + 37) (zG z) := hSt.1
  have hN24 : gN (zG z) ≤ 24 := hSt.2.1.1
  have hTx0 := hTx
  obtain ⟨hn110, ht1, htc, htb⟩ : txN I (a + 1) (zN z) (zT z) := hTx
  obtain ⟨pt, hpt⟩ : ∃ pt, mx_rf G (a + 37) 6 = pt := ⟨_, rfl⟩
  have he0 : env G I (a + 37) pt (zG z) (vA (zX z)) := by rw [← hpt]; exact hW0.env
  have hpd : pt = a + 3 ∨ a + 146 ≤ pt := by rw [← hpt]; exact hW0.2.2.1.2.2.1
  have hpd5 : pt + 5 ≤ mx_sz G := by rw [← hpt]; exact hW0.2.2.1.2.2.2.1
  have tgp : mx_tg G pt = 12 := he0.2.1.1
  obtain ⟨rch, tch, lch⟩ : mx_rf G pt 0 = pt + 1 ∧ mx_tg G (pt + 1) = 2 ∧ mx_ln G (pt + 1) = 40 := he0.2.1.2.1
  have hpn : ptN I pt (vA (zX z)) := he0.2.2.2.2
  have hwfp : wfP (vA (zX z)) := hpn.1
  have hwfg : wfG (zG z) := he0.2.2.2.1.1
  have hn40 : (zX z).2.1 ≤ 40 := hSt.2.1.2.1
  have hpz : I pt 1 = nI (zX z).2.1 := by
    rw [hpn.2.1, show pSz (vA (zX z)) = min (zX z).2.1 40 from (rdF_sz _ _).1, Nat.min_eq_left hn40]
  have hpl : I pt 2 = nI (pL (vA (zX z))) := hpn.2.2.1
  have hpc : ∀ i, i < (zX z).2.1 → I (pt + 1) i = nI ((zX z).2.2 i) := fun i hi => by
    have h := hpn.2.2.2.2.1 i (by rw [show pSz (vA (zX z)) = min (zX z).2.1 40 from (rdF_sz _ _).1, Nat.min_eq_left hn40]; exact hi)
    rw [h, show pCh (vA (zX z)) = (zX z).2.2 from (rdF_sz _ _).2]
  have hpc8 : ∀ i, i < (zX z).2.1 → (zX z).2.2 i < 256 := hSt.2.1.2.2.2
  refine mx_aload_n (i := 0) (hi := rfl) (hl := rfl) (hd := dX9_pathAt_0) ?_
  refine mx_getR (ci := 9) (k := 3) (r := (a + 37)) dX9_pathAt_1 k_299 (by decide) rfl (by assumption) (by assumption) (by omega) ?_
  refine mx_iload_n (i := 1) (hi := rfl) (hl := rfl) (hd := dX9_pathAt_4) ?_
  refine mx_iload_n (i := 2) (hi := rfl) (hl := rfl) (hd := dX9_pathAt_5) ?_
  refine mx_callVp (ci := 6) (As := [.int (nI p), .int (nI q)]) (rest := []) dX9_pathAt_6 (ct_hasPeopleN G I (a + 37) _ oSt0 hSv p q (by omega) (by omega)) km_X6_hasPeople rfl k_533 k_466 k_467 (by assumption) rfl rfl (Nat.le_of_ble_eq_true rfl) (by decide) ?_
  refine mx_iconstN 1 dX9_pathAt_9 (by decide) ?_
  refine mx_callSp (As := [.int (mx_b (decide (p < gP (zG z) ∧ q < gP (zG z)))), .int (nI 1)]) (rest := []) dX9_pathAt_10 (ct_requireT G I (p < gP (zG z) ∧ q < gP (zG z)) ⟨hp, hq⟩ 1) km_X9_require rfl k_338 k_339 rfl rfl (Nat.le_of_ble_eq_true rfl) (by decide) ?_
  refine mx_iload_n (i := 3) (hi := rfl) (hl := rfl) (hd := dX9_pathAt_13) ?_
  refine mx_ifN_lt 21 dX9_pathAt_14 (by decide) (hi) (fun c14 => ?_) (fun c14 => ?_)
  · skip
    exact absurd c14 (Nat.not_lt_zero _)
  · skip
    refine mx_iconstN 1 dX9_pathAt_17 (by decide) ?_
    refine mx_top (y := mx_b (decide (i < 2 ^ 31))) (mx_bT hi) ?_
    refine mx_goto (tgt := 22) dX9_pathAt_18 (by decide) ?_
    refine mx_iconstN 2 dX9_pathAt_22 (by decide) ?_
    refine mx_callSp (As := [.int (mx_b (decide (i < 2 ^ 31))), .int (nI 2)]) (rest := []) dX9_pathAt_23 (ct_requireT G I (i < 2 ^ 31) hi 2) km_X9_require rfl k_338 k_339 rfl rfl (Nat.le_of_ble_eq_true rfl) (by decide) ?_
    refine mx_aload_n (i := 0) (hi := rfl) (hl := rfl) (hd := dX9_pathAt_26) ?_
    refine mx_getR (ci := 9) (k := 10) (r := (a + 141)) dX9_pathAt_27 k_306 (by decide) rfl (by assumption) (by assumption) (by omega) ?_
    refine mx_aload_n (i := 0) (hi := rfl) (hl := rfl) (hd := dX9_pathAt_30) ?_
    refine mx_getR (ci := 9) (k := 3) (r := (a + 37)) dX9_pathAt_31 k_299 (by decide) rfl (by assumption) (by assumption) (by omega) ?_
    refine mx_iload_n (i := 2) (hi := rfl) (hl := rfl) (hd := dX9_pathAt_34) ?_
    refine mx_callVi (ci := 0) (As := [.ref (a + 37), .int (nI q)]) (rest := []) dX9_pathAt_35 (ct_aimAt G I (a + 141) oBp (a + 37) pt _ _ he0 (qd_o (by decide)) (pd_o hpd (by decide)) q hq) km_X0_aimAt rfl k_582 k_583 k_584 (by assumption) rfl rfl (Nat.le_of_ble_eq_true rfl) (by decide) (fun r1 I2 h2 => ?_)
    obtain ⟨e9, m1, m3⟩ := h2
    subst e9
    have hP2 := hW0.scr m3 (by omega)
    have hrb := (aFin_B (zG z) (vA (zX z)) q).1
    refine mx_aload_n (i := 0) (hi := rfl) (hl := rfl) (hd := dX9_pathAt_38) ?_
    refine mx_getR (ci := 9) (k := 10) (r := (a + 141)) dX9_pathAt_39 k_306 (by decide) rfl (by assumption) (by assumption) (by omega) ?_
    refine mx_aload_n (i := 0) (hi := rfl) (hl := rfl) (hd := dX9_pathAt_42) ?_
    refine mx_getR (ci := 9) (k := 3) (r := (a + 37)) dX9_pathAt_43 k_299 (by decide) rfl (by assumption) (by assumption) (by omega) ?_
    refine mx_iload_n (i := 1) (hi := rfl) (hl := rfl) (hd := dX9_pathAt_46) ?_
    refine mx_iload_n (i := 3) (hi := rfl) (hl := rfl) (hd := dX9_pathAt_47) ?_
    refine mx_callVi (ci := 0) (As := [.ref (a + 37), .int (nI p), .int (nI i)]) (rest := []) dX9_pathAt_48 (ct_goingAt G I2 (a + 141) oBp (a + 37) pt _ _ (he0.fr m3 (qd_o (by decide)) (pd_o hpd (by decide))) (qd_o (by decide)) (pd_o hpd (by decide)) _ m1 hrb p i (by omega) hi) km_X0_goingAt rfl k_885 k_886 k_887 (by assumption) rfl rfl (Nat.le_of_ble_eq_true rfl) (by decide) (fun r3 I3 h4 => ?_)
    obtain ⟨e9, m4⟩ := h4
    subst e9
    have hP3 := hP2.tr (hP2.1.scr m4 (by omega))
    exact mx_iret dX9_pathAt_51 rfl rfl (⟨⟨rfl, hP3⟩, rfl⟩)

section MXW
variable {M : mx_MI} {S : mx_Sc} {d bc bs pc : Nat} {ls : List (Option Value)} {G : mx_G} {I : mx_I} {Q : Option Value → mx_G → mx_I → Prop} {X : String → mx_G → mx_I → Prop} {y : MethodName} {M' : mx_MI} {d' idx n : Nat} {As rest stk : List Value}
theorem mx_callSWp {r : Option Value} (hd : decode (mx_cc M) pc = .ok (.invokestatic idx, 3)) (hc : mx_CTp y M' d' As G I r) (hk : mx_kM y M' n) {h0 : Nat × Nat × Nat × Nat} {hr0 : List (Nat × Nat × Nat × Nat)} (hhh : mx_hh M' = h0 :: hr0) (h1 : Cond.methodLink (mx_own M) idx y ∈ mx_AW) (h2 : Cond.static y ∈ mx_AW)
    (hst : stk = As.reverse ++ rest) (hn : As.length = n) (hW : (rest.map fun v => v.category).sum ≤ 8) (hdd : d' + 1 ≤ d) (k : mx_V M S d bc bs (pc + 3) ls (r.toList ++ rest) G I Q X) : mx_V M S d bc bs pc ls stk G I Q X :=
  mx_callSW (b1 := 0) (b2 := 0) hd hc hk hhh h1 h2 hst hn hW hdd (fun _ _ _ q => q.elim) (fun v G' I' q => by obtain ⟨rfl, rfl, rfl⟩ := q; exact k)
theorem mx_callSWi {R : Option Value → mx_I → Prop} (hd : decode (mx_cc M) pc = .ok (.invokestatic idx, 3)) (hc : mx_CTi y M' d' As G I R) (hk : mx_kM y M' n) {h0 : Nat × Nat × Nat × Nat} {hr0 : List (Nat × Nat × Nat × Nat)} (hhh : mx_hh M' = h0 :: hr0) (h1 : Cond.methodLink (mx_own M) idx y ∈ mx_AW) (h2 : Cond.static y ∈ mx_AW)
    (hst : stk = As.reverse ++ rest) (hn : As.length = n) (hW : (rest.map fun v => v.category).sum ≤ 8) (hdd : d' + 1 ≤ d) (k : ∀ v I', R v I' → mx_V M S d bc bs (pc + 3) ls (v.toList ++ rest) G I' Q X) : mx_V M S d bc bs pc ls stk G I Q X :=
  mx_callSW (b1 := 0) (b2 := 0) hd hc hk hhh h1 h2 hst hn hW hdd (fun _ _ _ q => q.elim) (fun v G' I' q => by obtain ⟨h, rfl⟩ := q; exact k v I' h)
end MXW

set_option maxHeartbeats 400000 in
set_option maxRecDepth 100000 in
theorem lw_stepT (G : mx_G) (I : mx_I) (a : Nat) (z : Zs) (hW : cW G I a z) (s w : Nat) (hs : s < gN (zG z)) (hw : w < 4) : mx_CTp yL_tryStep mL_tryStep 9 [.ref a, .int (nI s), .int (nI w)] G I (some (.int (nI (an_step z s w)))) := by
  refine mx_startH (k := 1) (by decide) rfl rfl (fun h => nomatch h) (Nat.le_of_ble_eq_true rfl) ?_
  show mx_V mL_tryStep mx_S0 9 0 0 0 [some (.ref a), some (.int (nI s)), some (.int (nI w)), none] [] G I (fun rv Gz Iz => rv = some (.int (nI (an_step z s w))) ∧ Gz = G ∧ Iz = I) (fun _ _ _ => False)
  have tg9 : mx_tg G a = 19 := hW.1.1.1
  refine mx_aload_n (i := 0) (hi := rfl) (hl := rfl) (hd := dL_tryStep_0) ?_
  refine mx_iload_n (i := 1) (hi := rfl) (hl := rfl) (hd := dL_tryStep_1) ?_
  refine mx_iload_n (i := 2) (hi := rfl) (hl := rfl) (hd := dL_tryStep_2) ?_
  refine mx_callVp (ci := 9) (As := [.int (nI s), .int (nI w)]) (rest := []) dL_tryStep_3 (ct_stepT G I a z hW s w hs hw) km_X9_step rfl k_719 k_720 k_721 (by assumption) rfl rfl (Nat.le_of_ble_eq_true rfl) (by decide) ?_
  exact mx_iret dL_tryStep_6 rfl rfl (⟨rfl, rfl, rfl⟩)

set_option maxHeartbeats 400000 in
set_option maxRecDepth 100000 in
theorem lc_stepT (G : mx_G) (I : mx_I) (a : Nat) (z : Zs) (hW : cW G I a z) (s w : Nat) (hs : s < gN (zG z)) (hw : w < 4) (u9 : Int32) : mx_CTp yL_call mL_call 10 [.ref a, .int (nI 3), .int (nI s), .int (nI w), .int u9] G I (some (.int (nI (an_step z s w)))) := by
  refine mx_start (k := 0) (by decide) rfl rfl (fun h => nomatch h) (Nat.le_of_ble_eq_true rfl) ?_
  show mx_V mL_call mx_S0 10 0 0 0 [some (.ref a), some (.int (nI 3)), some (.int (nI s)), some (.int (nI w)), some (.int u9)] [] G I (fun rv Gz Iz => rv = some (.int (nI (an_step z s w))) ∧ Gz = G ∧ Iz = I) (fun _ _ _ => False)
  refine mx_iload_n (i := 1) (hi := rfl) (hl := rfl) (hd := dL_call_0) ?_
  refine mx_tabIn (tgt := 117) dL_call_1 (by decide) (by decide) rfl (by decide) ?_
  refine mx_aload_n (i := 0) (hi := rfl) (hl := rfl) (hd := dL_call_117) ?_
  refine mx_iload_n (i := 2) (hi := rfl) (hl := rfl) (hd := dL_call_118) ?_
  refine mx_iload_n (i := 3) (hi := rfl) (hl := rfl) (hd := dL_call_119) ?_
  refine mx_callSWp (As := [.ref a, .int (nI s), .int (nI w)]) (rest := []) dL_call_120 (lw_stepT G I a z hW s w hs hw) km_L_tryStep rfl k_715 k_716 rfl rfl (Nat.le_of_ble_eq_true rfl) (by decide) ?_
  exact mx_iret dL_call_123 rfl rfl (⟨rfl, rfl, rfl⟩)

set_option maxHeartbeats 400000 in
set_option maxRecDepth 100000 in
theorem lw_pathAtT (G : mx_G) (I : mx_I) (a : Nat) (z : Zs) (hW : cW G I a z) (p q i : Nat) (hp : p < gP (zG z)) (hq : q < gP (zG z)) (hi : i < 2 ^ 31) : mx_CTi yL_tryPath mL_tryPath 9 [.ref a, .int (nI p), .int (nI q), .int (nI i)] G I (fun rv I1 => rv = some (.int (oI (an_pathAt z p q i))) ∧ cP G I a z G I1) := by
  refine mx_startH (k := 1) (by decide) rfl rfl (fun h => nomatch h) (Nat.le_of_ble_eq_true rfl) ?_
  show mx_V mL_tryPath mx_S0 9 0 0 0 [some (.ref a), some (.int (nI p)), some (.int (nI q)), some (.int (nI i)), none] [] G I (fun rv Gz Iz => (fun rv I1 => rv = some (.int (oI (an_pathAt z p q i))) ∧ cP G I a z G I1) rv Iz ∧ Gz = G) (fun _ _ _ => False)
  have tg9 : mx_tg G a = 19 := hW.1.1.1
  refine mx_aload_n (i := 0) (hi := rfl) (hl := rfl) (hd := dL_tryPath_0) ?_
  refine mx_iload_n (i := 1) (hi := rfl) (hl := rfl) (hd := dL_tryPath_1) ?_
  refine mx_iload_n (i := 2) (hi := rfl) (hl := rfl) (hd := dL_tryPath_2) ?_
  refine mx_iload_n (i := 3) (hi := rfl) (hl := rfl) (hd := dL_tryPath_3) ?_
  refine mx_callVi (ci := 9) (As := [.int (nI p), .int (nI q), .int (nI i)]) (rest := []) dL_tryPath_4 (ct_pathAtT G I a z hW p q i hp hq hi) km_X9_pathAt rfl k_881 k_882 k_883 (by assumption) rfl rfl (Nat.le_of_ble_eq_true rfl) (by decide) (fun r1 I1 h2 => ?_)
  obtain ⟨e9, hP⟩ := h2
  subst e9
  exact mx_iret dL_tryPath_7 rfl rfl (⟨⟨rfl, hP⟩, rfl⟩)

set_option maxHeartbeats 400000 in
set_option maxRecDepth 100000 in
theorem lc_pathAtT (G : mx_G) (I : mx_I) (a : Nat) (z : Zs) (hW : cW G I a z) (p q i : Nat) (hp : p < gP (zG z)) (hq : q < gP (zG z)) (hi : i < 2 ^ 31) : mx_CTi yL_call mL_call 10 [.ref a, .int (nI 16), .int (nI p), .int (nI q), .int (nI i)] G I (fun rv I1 => rv = some (.int (oI (an_pathAt z p q i))) ∧ cP G I a z G I1) := by
  refine mx_start (k := 0) (by decide) rfl rfl (fun h => nomatch h) (Nat.le_of_ble_eq_true rfl) ?_
  show mx_V mL_call mx_S0 10 0 0 0 [some (.ref a), some (.int (nI 16)), some (.int (nI p)), some (.int (nI q)), some (.int (nI i))] [] G I (fun rv Gz Iz => (fun rv I1 => rv = some (.int (oI (an_pathAt z p q i))) ∧ cP G I a z G I1) rv Iz ∧ Gz = G) (fun _ _ _ => False)
  refine mx_iload_n (i := 1) (hi := rfl) (hl := rfl) (hd := dL_call_0) ?_
  refine mx_tabIn (tgt := 201) dL_call_1 (by decide) (by decide) rfl (by decide) ?_
  refine mx_aload_n (i := 0) (hi := rfl) (hl := rfl) (hd := dL_call_201) ?_
  refine mx_iload_n (i := 2) (hi := rfl) (hl := rfl) (hd := dL_call_202) ?_
  refine mx_iload_n (i := 3) (hi := rfl) (hl := rfl) (hd := dL_call_203) ?_
  refine mx_iload (i := 4) (hl := rfl) (hd := dL_call_204) ?_
  refine mx_callSWi (As := [.ref a, .int (nI p), .int (nI q), .int (nI i)]) (rest := []) dL_call_206 (lw_pathAtT G I a z hW p q i hp hq hi) km_L_tryPath rfl k_878 k_879 rfl rfl (Nat.le_of_ble_eq_true rfl) (by decide) (fun r1 I1 h2 => ?_)
  obtain ⟨e9, hP⟩ := h2
  subst e9
  exact mx_iret dL_call_209 rfl rfl (⟨⟨rfl, hP⟩, rfl⟩)
