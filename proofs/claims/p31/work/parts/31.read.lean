/-! THE METHODS OF StepPaths that read -/
theorem pd_o {a pt k : Nat} (h : pt = a + 3 ∨ a + 146 ≤ pt) (h1 : 8 ≤ k ∧ k + 5 ≤ 146) : pt + 5 ≤ a + k ∨ a + k + 5 ≤ pt := by omega
theorem qd_o {a k : Nat} (h : 42 ≤ k) : a + 37 + 5 ≤ a + k ∨ a + k + 5 ≤ a + 37 := by omega
def fl_about (w : Int32) : Nat := if ¬ (0 ≤ w.toInt ∧ w.toInt ≤ 7) then 2 else 0
def an_about (z : Zs) (w : Nat) : Int32 := match w with
  | 0 => nI (gP (zG z))
  | 1 => nI (gN (zG z))
  | 2 => nI (zX z).2.1
  | 3 => nI (pL (vA (zX z)))
  | 4 => if ¬ 1 &&& pAc (vA (zX z)) = 0 then nI 1 else nI 0
  | 5 => nI (svP (zG z) (vA (zX z)) 0 (gP (zG z))).1
  | 6 => nI (gSum (gC (zG z)) (gN (zG z)))
  | _ => oI (svP (zG z) (vA (zX z)) 0 (gP (zG z))).2
theorem an_about_0 (z : Zs) : an_about z 0 = nI (gP (zG z)) := by unfold an_about; rfl
theorem an_about_1 (z : Zs) : an_about z 1 = nI (gN (zG z)) := by unfold an_about; rfl
theorem an_about_2 (z : Zs) : an_about z 2 = nI (zX z).2.1 := by unfold an_about; rfl
theorem an_about_3 (z : Zs) : an_about z 3 = nI (pL (vA (zX z))) := by unfold an_about; rfl
theorem an_about_4 (z : Zs) : an_about z 4 = if ¬ 1 &&& pAc (vA (zX z)) = 0 then nI 1 else nI 0 := by unfold an_about; rfl
theorem an_about_5 (z : Zs) : an_about z 5 = nI (svP (zG z) (vA (zX z)) 0 (gP (zG z))).1 := by unfold an_about; rfl
theorem an_about_6 (z : Zs) : an_about z 6 = nI (gSum (gC (zG z)) (gN (zG z))) := by unfold an_about; rfl
theorem an_about_7 (z : Zs) : an_about z 7 = oI (svP (zG z) (vA (zX z)) 0 (gP (zG z))).2 := by unfold an_about; rfl

set_option maxHeartbeats 400000 in
set_option maxRecDepth 100000 in
theorem ct_about (G : mx_G) (I : mx_I) (a : Nat) (z : Zs) (hW : cW G I a z) (w : Int32) : mx_CT yX9_about mX9_about 8 1 6 [.ref a, .int w] G I (fun rv Gz Iz => fl_about w = 0 ∧ rv = some (.int (an_about z w.toInt.toNat)) ∧ cP G I a z Gz Iz) (fun E Gz Iz => (fl_about w) ≠ 0 ∧ E = exN (fl_about w) ∧ cP G I a z Gz Iz) := by
  refine mx_start (k := 0) (by decide) rfl rfl (fun h => nomatch h) (Nat.le_of_ble_eq_true rfl) ?_
  show mx_V mX9_about mx_S0 8 1 6 0 [some (.ref a), some (.int w)] [] G I (fun rv Gz Iz => fl_about w = 0 ∧ rv = some (.int (an_about z w.toInt.toNat)) ∧ cP G I a z Gz Iz) (fun E Gz Iz => (fl_about w) ≠ 0 ∧ E = exN (fl_about w) ∧ cP G I a z Gz Iz)
  have hW0 := hW
  obtain ⟨⟨hSP, hsz, hpe⟩, hTx, hSt, hHi, hSl⟩ := hW
  have oSt : oST G (a + 37) := hSP.2.2.2.2.1.2
  obtain ⟨tg9, ⟨f0, oTx⟩, ⟨f1, oPt⟩, ⟨f2, oRd⟩, ⟨f3, -⟩, ⟨f4, oDr⟩, ⟨f5, oHi⟩, ⟨f6, gSl, lSl, ⟨rq0, oS0⟩, ⟨rq1, oS1⟩⟩, ⟨f7, gFi, lFi⟩, ⟨f8, oSe⟩, ⟨f9, oTr⟩, ⟨f10, oBp⟩⟩ := hSP
  have tg0 : mx_tg G (a + 1) = 17 := oTx.1
  have tg1 : mx_tg G (a + 3) = 12 := oPt.1
  have tg2 : mx_tg G (a + 8) = 13 := oRd.1
  have tg3 : mx_tg G (a + 37) = 16 := oSt.1
  have tg4 : mx_tg G (a + 42) = 16 := oDr.1
  have tg5 : mx_tg G (a + 47) = 11 := oHi.1
  have tg6 : mx_tg G (a + 131) = 15 := oSe.1
  have tg7 : mx_tg G (a + 136) = 15 := oTr.1
  have tg8 : mx_tg G (a + 141) = 10 := oBp.1
  obtain ⟨rT, tT, lT⟩ : mx_rf G (a + 1) 0 = a + 2 ∧ mx_tg G (a + 2) = 2 ∧ mx_ln G (a + 2) = 110 := oTx.2
  have oSt0 : oST G (a + 37) := oSt
  obtain ⟨-, ⟨rF, tF, lF⟩, ⟨rK, tK, lK⟩, ⟨rO, tO, lO⟩, ⟨rC, tC, lC⟩⟩ : mx_tg G (a + 37) = 16 ∧ (mx_rf G (a + 37) 2 = a + 38 ∧ mx_tg G (a + 38) = 1 ∧ mx_ln G (a + 38) = 25) ∧ (mx_rf G (a + 37) 3 = a + 39 ∧ mx_tg G (a + 39) = 1 ∧ mx_ln G (a + 39) = 25) ∧ (mx_rf G (a + 37) 4 = a + 40 ∧ mx_tg G (a + 40) = 1 ∧ mx_ln G (a + 40) = 25) ∧ (mx_rf G (a + 37) 5 = a + 41 ∧ mx_tg G (a + 41) = 1 ∧ mx_ln G (a + 41) = 25) := oSt
  have hSv : stN I (a + 37) (zG z) := hSt.1
  obtain ⟨⟨hP8, hN25, hvb⟩, hs0, hs1, hsF, hsK, hsT, hsC⟩ : stN I (a + 37) (zG z) := hSt.1
  have hN24 : gN (zG z) ≤ 24 := hSt.2.1.1
  have hTx0 := hTx
  obtain ⟨hn110, ht1, htc, htb⟩ : txN I (a + 1) (zN z) (zT z) := hTx
  obtain ⟨pt, hpt⟩ : ∃ pt, mx_rf G (a + 37) 6 = pt := ⟨_, rfl⟩
  have he0 : env G I (a + 37) pt (zG z) (vA (zX z)) := by rw [← hpt]; exact hW0.env
  have hpd : pt = a + 3 ∨ a + 146 ≤ pt := by rw [← hpt]; exact hW0.2.2.1.2.2.1
  have hpd5 : pt + 5 ≤ mx_sz G := by rw [← hpt]; exact hW0.2.2.1.2.2.2.1
  have tgp : mx_tg G pt = 12 := he0.2.1.1
  obtain ⟨rch, tch, lch⟩ : mx_rf G pt 0 = pt + 1 ∧ mx_tg G (pt + 1) = 2 ∧ mx_ln G (pt + 1) = 40 := he0.2.1.2.1
  have hpn : ptN I pt (vA (zX z)) := he0.2.2.2.2
  have hwfp : wfP (vA (zX z)) := hpn.1
  have hwfg : wfG (zG z) := he0.2.2.2.1.1
  have hn40 : (zX z).2.1 ≤ 40 := hSt.2.1.2.1
  have hpz : I pt 1 = nI (zX z).2.1 := by
    rw [hpn.2.1, show pSz (vA (zX z)) = min (zX z).2.1 40 from (rdF_sz _ _).1, Nat.min_eq_left hn40]
  have hpl : I pt 2 = nI (pL (vA (zX z))) := hpn.2.2.1
  have hpc : ∀ i, i < (zX z).2.1 → I (pt + 1) i = nI ((zX z).2.2 i) := fun i hi => by
    have h := hpn.2.2.2.2.1 i (by rw [show pSz (vA (zX z)) = min (zX z).2.1 40 from (rdF_sz _ _).1, Nat.min_eq_left hn40]; exact hi)
    rw [h, show pCh (vA (zX z)) = (zX z).2.2 from (rdF_sz _ _).2]
  have hpc8 : ∀ i, i < (zX z).2.1 → (zX z).2.2 i < 256 := hSt.2.1.2.2.2
  have J15 : ∀ (_ : Unit), mx_V mX9_about mx_S0 8 1 6 15 [some (.ref a), some (.int w)] [.int (mx_b (decide (0 ≤ w.toInt ∧ w.toInt ≤ 7)))] G I (fun rv Gz Iz => fl_about w = 0 ∧ rv = some (.int (an_about z w.toInt.toNat)) ∧ cP G I a z Gz Iz) (fun E Gz Iz => (fl_about w) ≠ 0 ∧ E = exN (fl_about w) ∧ cP G I a z Gz Iz) := by
    intro _ 
    refine mx_iconstN 2 dX9_about_15 (by decide) ?_
    refine mx_callS (As := [.int (mx_b (decide (0 ≤ w.toInt ∧ w.toInt ≤ 7))), .int (nI 2)]) (rest := []) (b1 := 1) (b2 := 6) dX9_about_16 (ct_require G I (0 ≤ w.toInt ∧ w.toInt ≤ 7) 2 (by decide)) km_X9_require rfl k_338 k_339 rfl rfl (Nat.le_of_ble_eq_true rfl) (by decide) (fun E G9 I9 h9 => mx_xo rfl (by have hf : fl_about w = 2 := (by unfold fl_about; rw [if_pos h9.1]); show (fl_about w) ≠ 0 ∧ E = exN (fl_about w) ∧ cP G I a z G9 I9; rw [hf]; exact ⟨by decide, hW0.id.thw h9.2.2⟩)) (fun r1 G3 I2 h4 => ?_)
    obtain ⟨e0, e1, e2, e3⟩ := h4
    have e2 := e2.symm
    subst e1; subst e2; subst e3
    have k2 : 0 ≤ w.toInt ∧ w.toInt ≤ 7 := e0.resolve_right (by decide)
    clear e0
    refine mx_iload_n (i := 1) (hi := rfl) (hl := rfl) (hd := dX9_about_19) ?_
    obtain ⟨wn, hwn, hw⟩ : ∃ wn, wn ≤ 7 ∧ w = nI wn := ⟨w.toInt.toNat, by omega, (mx_nn (by omega)).symm⟩
    have hk : w.toInt.toNat = wn := by rw [hw]; exact nI_tt (by omega)
    rcases (show wn = 0 ∨ wn = 1 ∨ wn = 2 ∨ wn = 3 ∨ wn = 4 ∨ wn = 5 ∨ wn = 6 ∨ wn = 7 by omega) with rfl | rfl | rfl | rfl | rfl | rfl | rfl | rfl
    · refine mx_top (y := nI 0) hw ?_
      refine mx_tabIn (tgt := 64) dX9_about_20 (by decide) (by decide) rfl (by decide) ?_
      refine mx_aload_n (i := 0) (hi := rfl) (hl := rfl) (hd := dX9_about_64) ?_
      refine mx_getR (ci := 9) (k := 3) (r := (a + 37)) dX9_about_65 k_299 (by decide) rfl (by assumption) (by assumption) (by omega) ?_
      refine mx_getV (ci := 6) (k := 0) (nI (gP (zG z))) dX9_about_68 k_167 (by decide) rfl (by assumption) hs0 ?_
      exact mx_iret dX9_about_71 rfl rfl (⟨by unfold fl_about; rw [if_neg (fun q => q k2)], by rw [hk, an_about_0], hW0.id⟩)
    · refine mx_top (y := nI 1) hw ?_
      refine mx_tabIn (tgt := 72) dX9_about_20 (by decide) (by decide) rfl (by decide) ?_
      refine mx_aload_n (i := 0) (hi := rfl) (hl := rfl) (hd := dX9_about_72) ?_
      refine mx_getR (ci := 9) (k := 3) (r := (a + 37)) dX9_about_73 k_299 (by decide) rfl (by assumption) (by assumption) (by omega) ?_
      refine mx_getV (ci := 6) (k := 1) (nI (gN (zG z))) dX9_about_76 k_170 (by decide) rfl (by assumption) hs1 ?_
      exact mx_iret dX9_about_79 rfl rfl (⟨by unfold fl_about; rw [if_neg (fun q => q k2)], by rw [hk, an_about_1], hW0.id⟩)
    · refine mx_top (y := nI 2) hw ?_
      refine mx_tabIn (tgt := 80) dX9_about_20 (by decide) (by decide) rfl (by decide) ?_
      refine mx_aload_n (i := 0) (hi := rfl) (hl := rfl) (hd := dX9_about_80) ?_
      refine mx_getR (ci := 9) (k := 3) (r := (a + 37)) dX9_about_81 k_299 (by decide) rfl (by assumption) (by assumption) (by omega) ?_
      refine mx_getR (ci := 6) (k := 6) (r := pt) dX9_about_84 k_193 (by decide) rfl (by assumption) (by assumption) (by omega) ?_
      refine mx_getV (ci := 2) (k := 1) (nI ((zX z).2.1)) dX9_about_87 k_84 (by decide) rfl (by assumption) hpz ?_
      exact mx_iret dX9_about_90 rfl rfl (⟨by unfold fl_about; rw [if_neg (fun q => q k2)], by rw [hk, an_about_2], hW0.id⟩)
    · refine mx_top (y := nI 3) hw ?_
      refine mx_tabIn (tgt := 91) dX9_about_20 (by decide) (by decide) rfl (by decide) ?_
      refine mx_aload_n (i := 0) (hi := rfl) (hl := rfl) (hd := dX9_about_91) ?_
      refine mx_getR (ci := 9) (k := 3) (r := (a + 37)) dX9_about_92 k_299 (by decide) rfl (by assumption) (by assumption) (by omega) ?_
      refine mx_getR (ci := 6) (k := 6) (r := pt) dX9_about_95 k_193 (by decide) rfl (by assumption) (by assumption) (by omega) ?_
      refine mx_getV (ci := 2) (k := 2) (nI (pL (vA (zX z)))) dX9_about_98 k_86 (by decide) rfl (by assumption) hpl ?_
      exact mx_iret dX9_about_101 rfl rfl (⟨by unfold fl_about; rw [if_neg (fun q => q k2)], by rw [hk, an_about_3], hW0.id⟩)
    · refine mx_top (y := nI 4) hw ?_
      refine mx_tabIn (tgt := 102) dX9_about_20 (by decide) (by decide) rfl (by decide) ?_
      refine mx_aload_n (i := 0) (hi := rfl) (hl := rfl) (hd := dX9_about_102) ?_
      refine mx_getR (ci := 9) (k := 3) (r := (a + 37)) dX9_about_103 k_299 (by decide) rfl (by assumption) (by assumption) (by omega) ?_
      refine mx_getR (ci := 6) (k := 6) (r := pt) dX9_about_106 k_193 (by decide) rfl (by assumption) (by assumption) (by omega) ?_
      refine mx_iconstN 1 dX9_about_109 (by decide) ?_
      refine mx_callVp (ci := 2) (As := [.int (nI 1)]) (rest := []) dX9_about_110 (ct_accepts G I pt _ he0.2.1 hpn 1 (by decide)) km_X2_accepts rfl k_710 k_563 k_564 (by assumption) rfl rfl (Nat.le_of_ble_eq_true rfl) (by decide) ?_
      refine mx_ifB_eq 120 dX9_about_113 (by decide) (fun c113 => ?_) (fun c113 => ?_)
      · skip
        refine mx_iconstN 0 dX9_about_120 (by decide) ?_
        exact mx_iret dX9_about_121 rfl rfl (⟨by unfold fl_about; rw [if_neg (fun q => q k2)], by rw [hk, an_about_4, if_neg c113], hW0.id⟩)
      · skip
        refine mx_iconstN 1 dX9_about_116 (by decide) ?_
        refine mx_goto (tgt := 121) dX9_about_117 (by decide) ?_
        exact mx_iret dX9_about_121 rfl rfl (⟨by unfold fl_about; rw [if_neg (fun q => q k2)], by rw [hk, an_about_4, if_pos c113], hW0.id⟩)
    · refine mx_top (y := nI 5) hw ?_
      refine mx_tabIn (tgt := 122) dX9_about_20 (by decide) (by decide) rfl (by decide) ?_
      refine mx_aload_n (i := 0) (hi := rfl) (hl := rfl) (hd := dX9_about_122) ?_
      refine mx_getR (ci := 9) (k := 8) (r := (a + 131)) dX9_about_123 k_304 (by decide) rfl (by assumption) (by assumption) (by omega) ?_
      refine mx_aload_n (i := 0) (hi := rfl) (hl := rfl) (hd := dX9_about_126) ?_
      refine mx_getR (ci := 9) (k := 3) (r := (a + 37)) dX9_about_127 k_299 (by decide) rfl (by assumption) (by assumption) (by omega) ?_
      refine mx_iconstN 0 dX9_about_130 (by decide) ?_
      refine mx_callVi (ci := 5) (As := [.ref (a + 37), .int (nI 0)]) (rest := []) dX9_about_131 (ct_survey G I (a + 131) oSe (a + 37) pt _ _ he0 (qd_o (by decide)) (pd_o hpd (by decide)) 0 (by decide)) km_X5_survey rfl k_648 k_649 k_650 (by assumption) rfl rfl (Nat.le_of_ble_eq_true rfl) (by decide) (fun r5 I2 h6 => ?_)
      obtain ⟨e9, m1, m2, m3⟩ := h6
      subst e9
      have hP2 := hW0.scr m3 (by omega)
      refine mx_aload_n (i := 0) (hi := rfl) (hl := rfl) (hd := dX9_about_134) ?_
      refine mx_getR (ci := 9) (k := 8) (r := (a + 131)) dX9_about_135 k_304 (by decide) rfl (by assumption) (by assumption) (by omega) ?_
      refine mx_getV (ci := 5) (k := 1) (nI ((svP (zG z) (vA (zX z)) 0 (gP (zG z))).1)) dX9_about_138 k_249 (by decide) rfl (by assumption) m1 ?_
      exact mx_iret dX9_about_141 rfl rfl (⟨by unfold fl_about; rw [if_neg (fun q => q k2)], by rw [hk, an_about_5], hP2⟩)
    · refine mx_top (y := nI 6) hw ?_
      refine mx_tabIn (tgt := 142) dX9_about_20 (by decide) (by decide) rfl (by decide) ?_
      refine mx_aload_n (i := 0) (hi := rfl) (hl := rfl) (hd := dX9_about_142) ?_
      refine mx_getR (ci := 9) (k := 3) (r := (a + 37)) dX9_about_143 k_299 (by decide) rfl (by assumption) (by assumption) (by omega) ?_
      refine mx_callVp (ci := 6) (As := []) (rest := []) dX9_about_146 (ct_costSum G I (a + 37) _ oSt0 hSv) km_X6_costSum rfl k_711 k_712 k_713 (by assumption) rfl rfl (Nat.le_of_ble_eq_true rfl) (by decide) ?_
      exact mx_iret dX9_about_149 rfl rfl (⟨by unfold fl_about; rw [if_neg (fun q => q k2)], by rw [hk, an_about_6], hW0.id⟩)
    · refine mx_top (y := nI 7) hw ?_
      refine mx_tabOut (tgt := 150) dX9_about_20 (by decide) (by decide) ?_
      refine mx_aload_n (i := 0) (hi := rfl) (hl := rfl) (hd := dX9_about_150) ?_
      refine mx_getR (ci := 9) (k := 8) (r := (a + 131)) dX9_about_151 k_304 (by decide) rfl (by assumption) (by assumption) (by omega) ?_
      refine mx_aload_n (i := 0) (hi := rfl) (hl := rfl) (hd := dX9_about_154) ?_
      refine mx_getR (ci := 9) (k := 3) (r := (a + 37)) dX9_about_155 k_299 (by decide) rfl (by assumption) (by assumption) (by omega) ?_
      refine mx_iconstN 0 dX9_about_158 (by decide) ?_
      refine mx_callVi (ci := 5) (As := [.ref (a + 37), .int (nI 0)]) (rest := []) dX9_about_159 (ct_survey G I (a + 131) oSe (a + 37) pt _ _ he0 (qd_o (by decide)) (pd_o hpd (by decide)) 0 (by decide)) km_X5_survey rfl k_648 k_649 k_650 (by assumption) rfl rfl (Nat.le_of_ble_eq_true rfl) (by decide) (fun r7 I2 h8 => ?_)
      obtain ⟨e9, m1, m2, m3⟩ := h8
      subst e9
      have hP2 := hW0.scr m3 (by omega)
      refine mx_aload_n (i := 0) (hi := rfl) (hl := rfl) (hd := dX9_about_162) ?_
      refine mx_getR (ci := 9) (k := 8) (r := (a + 131)) dX9_about_163 k_304 (by decide) rfl (by assumption) (by assumption) (by omega) ?_
      refine mx_getV (ci := 5) (k := 2) (oI (svP (zG z) (vA (zX z)) 0 (gP (zG z))).2 : Int32) dX9_about_166 k_251 (by decide) rfl (by assumption) m2 ?_
      exact mx_iret dX9_about_169 rfl rfl (⟨by unfold fl_about; rw [if_neg (fun q => q k2)], by rw [hk, an_about_7], hP2⟩)
  refine mx_iload_n (i := 1) (hi := rfl) (hl := rfl) (hd := dX9_about_0) ?_
  refine mx_ifR_lt 14 dX9_about_1 (by decide) (fun c1 => ?_) (fun c1 => ?_)
  · skip
    refine mx_iconstN 0 dX9_about_14 (by decide) ?_
    refine mx_top (y := mx_b (decide (0 ≤ w.toInt ∧ w.toInt ≤ 7))) (mx_bF (by omega)) ?_
    exact J15 () 
  · skip
    refine mx_iload_n (i := 1) (hi := rfl) (hl := rfl) (hd := dX9_about_4) ?_
    refine mx_bipushN 7 dX9_about_5 (by decide) ?_
    refine mx_cmpRN_gt 14 dX9_about_7 (by decide) (by omega) (fun c7 => ?_) (fun c7 => ?_)
    · skip
      refine mx_iconstN 0 dX9_about_14 (by decide) ?_
      refine mx_top (y := mx_b (decide (0 ≤ w.toInt ∧ w.toInt ≤ 7))) (mx_bF (by omega)) ?_
      exact J15 () 
    · skip
      refine mx_iconstN 1 dX9_about_10 (by decide) ?_
      refine mx_goto (tgt := 15) dX9_about_11 (by decide) ?_
      refine mx_top (y := mx_b (decide (0 ≤ w.toInt ∧ w.toInt ≤ 7))) (mx_bT (by omega)) ?_
      exact J15 () 

def fl_step (z : Zs) (s w : Int32) : Nat := if ¬ (0 ≤ s.toInt ∧ s.toInt < (gN (zG z) : Int)) then 1 else if ¬ (0 ≤ w.toInt ∧ w.toInt ≤ 3) then 2 else 0
def an_step (z : Zs) (s w : Nat) : Nat := match w with
  | 0 => gF (zG z) s
  | 1 => gK (zG z) s
  | 2 => gT (zG z) s
  | _ => gC (zG z) s
theorem an_step_0 (z : Zs) (s : Nat) : an_step z s 0 = gF (zG z) s := by unfold an_step; rfl
theorem an_step_1 (z : Zs) (s : Nat) : an_step z s 1 = gK (zG z) s := by unfold an_step; rfl
theorem an_step_2 (z : Zs) (s : Nat) : an_step z s 2 = gT (zG z) s := by unfold an_step; rfl
theorem an_step_3 (z : Zs) (s : Nat) : an_step z s 3 = gC (zG z) s := by unfold an_step; rfl

set_option maxHeartbeats 400000 in
set_option maxRecDepth 100000 in
theorem ct_step (G : mx_G) (I : mx_I) (a : Nat) (z : Zs) (hW : cW G I a z) (s w : Int32) : mx_CT yX9_step mX9_step 8 2 12 [.ref a, .int s, .int w] G I (fun rv Gz Iz => fl_step z s w = 0 ∧ rv = some (.int (nI (an_step z s.toInt.toNat w.toInt.toNat))) ∧ cP G I a z Gz Iz) (fun E Gz Iz => (fl_step z s w) ≠ 0 ∧ E = exN (fl_step z s w) ∧ cP G I a z Gz Iz) := by
  refine mx_start (k := 0) (by decide) rfl rfl (fun h => nomatch h) (Nat.le_of_ble_eq_true rfl) ?_
  show mx_V mX9_step mx_S0 8 2 12 0 [some (.ref a), some (.int s), some (.int w)] [] G I (fun rv Gz Iz => fl_step z s w = 0 ∧ rv = some (.int (nI (an_step z s.toInt.toNat w.toInt.toNat))) ∧ cP G I a z Gz Iz) (fun E Gz Iz => (fl_step z s w) ≠ 0 ∧ E = exN (fl_step z s w) ∧ cP G I a z Gz Iz)
  have hW0 := hW
  obtain ⟨⟨hSP, hsz, hpe⟩, hTx, hSt, hHi, hSl⟩ := hW
  have oSt : oST G (a + 37) := hSP.2.2.2.2.1.2
  obtain ⟨tg9, ⟨f0, oTx⟩, ⟨f1, oPt⟩, ⟨f2, oRd⟩, ⟨f3, -⟩, ⟨f4, oDr⟩, ⟨f5, oHi⟩, ⟨f6, gSl, lSl, ⟨rq0, oS0⟩, ⟨rq1, oS1⟩⟩, ⟨f7, gFi, lFi⟩, ⟨f8, oSe⟩, ⟨f9, oTr⟩, ⟨f10, oBp⟩⟩ := hSP
  have tg0 : mx_tg G (a + 1) = 17 := oTx.1
  have tg1 : mx_tg G (a + 3) = 12 := oPt.1
  have tg2 : mx_tg G (a + 8) = 13 := oRd.1
  have tg3 : mx_tg G (a + 37) = 16 := oSt.1
  have tg4 : mx_tg G (a + 42) = 16 := oDr.1
  have tg5 : mx_tg G (a + 47) = 11 := oHi.1
  have tg6 : mx_tg G (a + 131) = 15 := oSe.1
  have tg7 : mx_tg G (a + 136) = 15 := oTr.1
  have tg8 : mx_tg G (a + 141) = 10 := oBp.1
  obtain ⟨rT, tT, lT⟩ : mx_rf G (a + 1) 0 = a + 2 ∧ mx_tg G (a + 2) = 2 ∧ mx_ln G (a + 2) = 110 := oTx.2
  have oSt0 : oST G (a + 37) := oSt
  obtain ⟨-, ⟨rF, tF, lF⟩, ⟨rK, tK, lK⟩, ⟨rO, tO, lO⟩, ⟨rC, tC, lC⟩⟩ : mx_tg G (a + 37) = 16 ∧ (mx_rf G (a + 37) 2 = a + 38 ∧ mx_tg G (a + 38) = 1 ∧ mx_ln G (a + 38) = 25) ∧ (mx_rf G (a + 37) 3 = a + 39 ∧ mx_tg G (a + 39) = 1 ∧ mx_ln G (a + 39) = 25) ∧ (mx_rf G (a + 37) 4 = a + 40 ∧ mx_tg G (a + 40) = 1 ∧ mx_ln G (a + 40) = 25) ∧ (mx_rf G (a + 37) 5 = a + 41 ∧ mx_tg G (a + 41) = 1 ∧ mx_ln G (a + 41) = 25) := oSt
  have hSv : stN I (a + 37) (zG z) := hSt.1
  obtain ⟨⟨hP8, hN25, hvb⟩, hs0, hs1, hsF, hsK, hsT, hsC⟩ : stN I (a + 37) (zG z) := hSt.1
  have hN24 : gN (zG z) ≤ 24 := hSt.2.1.1
  have hTx0 := hTx
  obtain ⟨hn110, ht1, htc, htb⟩ : txN I (a + 1) (zN z) (zT z) := hTx
  have J26 : ∀ (_ : Unit), (0 ≤ s.toInt ∧ s.toInt < (gN (zG z) : Int)) → mx_V mX9_step mx_S0 8 1 6 26 [some (.ref a), some (.int s), some (.int w)] [.int (mx_b (decide (0 ≤ w.toInt ∧ w.toInt ≤ 3)))] G I (fun rv Gz Iz => fl_step z s w = 0 ∧ rv = some (.int (nI (an_step z s.toInt.toNat w.toInt.toNat))) ∧ cP G I a z Gz Iz) (fun E Gz Iz => (fl_step z s w) ≠ 0 ∧ E = exN (fl_step z s w) ∧ cP G I a z Gz Iz) := by
    intro _ k1
    refine mx_iconstN 2 dX9_step_26 (by decide) ?_
    refine mx_callS (As := [.int (mx_b (decide (0 ≤ w.toInt ∧ w.toInt ≤ 3))), .int (nI 2)]) (rest := []) (b1 := 1) (b2 := 6) dX9_step_27 (ct_require G I (0 ≤ w.toInt ∧ w.toInt ≤ 3) 2 (by decide)) km_X9_require rfl k_338 k_339 rfl rfl (Nat.le_of_ble_eq_true rfl) (by decide) (fun E G9 I9 h9 => mx_xo rfl (by have hf : fl_step z s w = 2 := (by unfold fl_step; rw [if_neg (fun q => q k1), if_pos h9.1]); show (fl_step z s w) ≠ 0 ∧ E = exN (fl_step z s w) ∧ cP G I a z G9 I9; rw [hf]; exact ⟨by decide, hW0.id.thw h9.2.2⟩)) (fun r1 G3 I2 h4 => ?_)
    obtain ⟨e0, e1, e2, e3⟩ := h4
    have e2 := e2.symm
    subst e1; subst e2; subst e3
    have k2 : 0 ≤ w.toInt ∧ w.toInt ≤ 3 := e0.resolve_right (by decide)
    clear e0
    refine mx_iload_n (i := 2) (hi := rfl) (hl := rfl) (hd := dX9_step_30) ?_
    obtain ⟨wn, hwn, hw⟩ : ∃ wn, wn ≤ 3 ∧ w = nI wn := ⟨w.toInt.toNat, by omega, (mx_nn (by omega)).symm⟩
    have hk : w.toInt.toNat = wn := by rw [hw]; exact nI_tt (by omega)
    rcases (show wn = 0 ∨ wn = 1 ∨ wn = 2 ∨ wn = 3 by omega) with rfl | rfl | rfl | rfl
    · refine mx_top (y := nI 0) hw ?_
      refine mx_tabIn (tgt := 56) dX9_step_31 (by decide) (by decide) rfl (by decide) ?_
      refine mx_aload_n (i := 0) (hi := rfl) (hl := rfl) (hd := dX9_step_56) ?_
      refine mx_getR (ci := 9) (k := 3) (r := (a + 37)) dX9_step_57 k_299 (by decide) rfl (by assumption) (by assumption) (by omega) ?_
      refine mx_getR (ci := 6) (k := 2) (r := (a + 38)) dX9_step_60 k_175 (by decide) rfl (by assumption) (by assumption) (by omega) ?_
      refine mx_iload_n (i := 1) (hi := rfl) (hl := rfl) (hd := dX9_step_63) ?_
      refine mx_ialdV s.toInt.toNat (nI (gF (zG z) s.toInt.toNat)) dX9_step_64 (by assumption) ⟨(mx_nn k1.1).symm, by omega, by omega⟩ (hsF s.toInt.toNat (by omega)) ?_
      exact mx_iret dX9_step_65 rfl rfl (⟨by unfold fl_step; rw [if_neg (fun q => q k1), if_neg (fun q => q k2)], by rw [hk, an_step_0], hW0.id⟩)
    · refine mx_top (y := nI 1) hw ?_
      refine mx_tabIn (tgt := 66) dX9_step_31 (by decide) (by decide) rfl (by decide) ?_
      refine mx_aload_n (i := 0) (hi := rfl) (hl := rfl) (hd := dX9_step_66) ?_
      refine mx_getR (ci := 9) (k := 3) (r := (a + 37)) dX9_step_67 k_299 (by decide) rfl (by assumption) (by assumption) (by omega) ?_
      refine mx_getR (ci := 6) (k := 3) (r := (a + 39)) dX9_step_70 k_180 (by decide) rfl (by assumption) (by assumption) (by omega) ?_
      refine mx_iload_n (i := 1) (hi := rfl) (hl := rfl) (hd := dX9_step_73) ?_
      refine mx_ialdV s.toInt.toNat (nI (gK (zG z) s.toInt.toNat)) dX9_step_74 (by assumption) ⟨(mx_nn k1.1).symm, by omega, by omega⟩ (hsK s.toInt.toNat (by omega)) ?_
      exact mx_iret dX9_step_75 rfl rfl (⟨by unfold fl_step; rw [if_neg (fun q => q k1), if_neg (fun q => q k2)], by rw [hk, an_step_1], hW0.id⟩)
    · refine mx_top (y := nI 2) hw ?_
      refine mx_tabIn (tgt := 76) dX9_step_31 (by decide) (by decide) rfl (by decide) ?_
      refine mx_aload_n (i := 0) (hi := rfl) (hl := rfl) (hd := dX9_step_76) ?_
      refine mx_getR (ci := 9) (k := 3) (r := (a + 37)) dX9_step_77 k_299 (by decide) rfl (by assumption) (by assumption) (by omega) ?_
      refine mx_getR (ci := 6) (k := 4) (r := (a + 40)) dX9_step_80 k_183 (by decide) rfl (by assumption) (by assumption) (by omega) ?_
      refine mx_iload_n (i := 1) (hi := rfl) (hl := rfl) (hd := dX9_step_83) ?_
      refine mx_ialdV s.toInt.toNat (nI (gT (zG z) s.toInt.toNat)) dX9_step_84 (by assumption) ⟨(mx_nn k1.1).symm, by omega, by omega⟩ (hsT s.toInt.toNat (by omega)) ?_
      exact mx_iret dX9_step_85 rfl rfl (⟨by unfold fl_step; rw [if_neg (fun q => q k1), if_neg (fun q => q k2)], by rw [hk, an_step_2], hW0.id⟩)
    · refine mx_top (y := nI 3) hw ?_
      refine mx_tabOut (tgt := 86) dX9_step_31 (by decide) (by decide) ?_
      refine mx_aload_n (i := 0) (hi := rfl) (hl := rfl) (hd := dX9_step_86) ?_
      refine mx_getR (ci := 9) (k := 3) (r := (a + 37)) dX9_step_87 k_299 (by decide) rfl (by assumption) (by assumption) (by omega) ?_
      refine mx_getR (ci := 6) (k := 5) (r := (a + 41)) dX9_step_90 k_188 (by decide) rfl (by assumption) (by assumption) (by omega) ?_
      refine mx_iload_n (i := 1) (hi := rfl) (hl := rfl) (hd := dX9_step_93) ?_
      refine mx_ialdV s.toInt.toNat (nI (gC (zG z) s.toInt.toNat)) dX9_step_94 (by assumption) ⟨(mx_nn k1.1).symm, by omega, by omega⟩ (hsC s.toInt.toNat (by omega)) ?_
      exact mx_iret dX9_step_95 rfl rfl (⟨by unfold fl_step; rw [if_neg (fun q => q k1), if_neg (fun q => q k2)], by rw [hk, an_step_3], hW0.id⟩)
  refine mx_aload_n (i := 0) (hi := rfl) (hl := rfl) (hd := dX9_step_0) ?_
  refine mx_getR (ci := 9) (k := 3) (r := (a + 37)) dX9_step_1 k_299 (by decide) rfl (by assumption) (by assumption) (by omega) ?_
  refine mx_iload_n (i := 1) (hi := rfl) (hl := rfl) (hd := dX9_step_4) ?_
  refine mx_callVp (ci := 6) (As := [.int s]) (rest := []) dX9_step_5 (ct_hasStep G I (a + 37) _ oSt0 hSv s) km_X6_hasStep rfl k_491 k_492 k_493 (by assumption) rfl rfl (Nat.le_of_ble_eq_true rfl) (by decide) ?_
  refine mx_iconstN 1 dX9_step_8 (by decide) ?_
  refine mx_callS (As := [.int (mx_b (decide (0 ≤ s.toInt ∧ s.toInt < (gN (zG z) : Int)))), .int (nI 1)]) (rest := []) (b1 := 1) (b2 := 6) dX9_step_9 (ct_require G I (0 ≤ s.toInt ∧ s.toInt < (gN (zG z) : Int)) 1 (by decide)) km_X9_require rfl k_338 k_339 rfl rfl (Nat.le_of_ble_eq_true rfl) (by decide) (fun E G9 I9 h9 => mx_xo rfl (by have hf : fl_step z s w = 1 := (by unfold fl_step; rw [if_pos h9.1]); show (fl_step z s w) ≠ 0 ∧ E = exN (fl_step z s w) ∧ cP G I a z G9 I9; rw [hf]; exact ⟨by decide, hW0.id.thw h9.2.2⟩)) (fun r5 G7 I6 h8 => ?_)
  obtain ⟨e0, e1, e2, e3⟩ := h8
  have e2 := e2.symm
  subst e1; subst e2; subst e3
  have k1 : 0 ≤ s.toInt ∧ s.toInt < (gN (zG z) : Int) := e0.resolve_right (by decide)
  clear e0
  refine mx_iload_n (i := 2) (hi := rfl) (hl := rfl) (hd := dX9_step_12) ?_
  refine mx_ifR_lt 25 dX9_step_13 (by decide) (fun c13 => ?_) (fun c13 => ?_)
  · skip
    refine mx_iconstN 0 dX9_step_25 (by decide) ?_
    refine mx_top (y := mx_b (decide (0 ≤ w.toInt ∧ w.toInt ≤ 3))) (mx_bF (by omega)) ?_
    exact J26 () k1
  · skip
    refine mx_iload_n (i := 2) (hi := rfl) (hl := rfl) (hd := dX9_step_16) ?_
    refine mx_iconstN 3 dX9_step_17 (by decide) ?_
    refine mx_cmpRN_gt 25 dX9_step_18 (by decide) (by omega) (fun c18 => ?_) (fun c18 => ?_)
    · skip
      refine mx_iconstN 0 dX9_step_25 (by decide) ?_
      refine mx_top (y := mx_b (decide (0 ≤ w.toInt ∧ w.toInt ≤ 3))) (mx_bF (by omega)) ?_
      exact J26 () k1
    · skip
      refine mx_iconstN 1 dX9_step_21 (by decide) ?_
      refine mx_goto (tgt := 26) dX9_step_22 (by decide) ?_
      refine mx_top (y := mx_b (decide (0 ≤ w.toInt ∧ w.toInt ≤ 3))) (mx_bT (by omega)) ?_
      exact J26 () k1

def fl_person (z : Zs) (p w : Int32) : Nat := if ¬ (0 ≤ p.toInt ∧ p.toInt < (gP (zG z) : Int)) then 1 else if ¬ (0 ≤ w.toInt ∧ w.toInt ≤ 3) then 2 else 0
def an_person (z : Zs) (p w : Nat) : Nat := match w with
  | 0 => gCnt (gF (zG z)) p (gN (zG z))
  | 1 => gCnt (gT (zG z)) p (gN (zG z))
  | 2 => pfB (sCs (zG z) (vA (zX z)) p none 0 1512) (gP (zG z))
  | _ => ptB (zG z) (vA (zX z)) p (gP (zG z))
theorem an_person_0 (z : Zs) (p : Nat) : an_person z p 0 = gCnt (gF (zG z)) p (gN (zG z)) := by unfold an_person; rfl
theorem an_person_1 (z : Zs) (p : Nat) : an_person z p 1 = gCnt (gT (zG z)) p (gN (zG z)) := by unfold an_person; rfl
theorem an_person_2 (z : Zs) (p : Nat) : an_person z p 2 = pfB (sCs (zG z) (vA (zX z)) p none 0 1512) (gP (zG z)) := by unfold an_person; rfl
theorem an_person_3 (z : Zs) (p : Nat) : an_person z p 3 = ptB (zG z) (vA (zX z)) p (gP (zG z)) := by unfold an_person; rfl
theorem mx_CTp.eq {y : MethodName} {M : mx_MI} {d : Nat} {av av' : List Value} {G : mx_G} {I : mx_I} {r r' : Option Value} (h : mx_CTp y M d av G I r) (e : av = av') (e2 : r = r') : mx_CTp y M d av' G I r' := by subst e; subst e2; exact h
theorem mx_CTi.eq {y : MethodName} {M : mx_MI} {d : Nat} {av av' : List Value} {G : mx_G} {I : mx_I} {R : Option Value → mx_I → Prop} (h : mx_CTi y M d av G I R) (e : av = av') : mx_CTi y M d av' G I R := by subst e; exact h

set_option maxHeartbeats 400000 in
set_option maxRecDepth 100000 in
theorem ct_person (G : mx_G) (I : mx_I) (a : Nat) (z : Zs) (hW : cW G I a z) (p w : Int32) : mx_CT yX9_person mX9_person 8 2 12 [.ref a, .int p, .int w] G I (fun rv Gz Iz => fl_person z p w = 0 ∧ rv = some (.int (nI (an_person z p.toInt.toNat w.toInt.toNat))) ∧ cP G I a z Gz Iz) (fun E Gz Iz => (fl_person z p w) ≠ 0 ∧ E = exN (fl_person z p w) ∧ cP G I a z Gz Iz) := by
  refine mx_start (k := 0) (by decide) rfl rfl (fun h => nomatch h) (Nat.le_of_ble_eq_true rfl) ?_
  show mx_V mX9_person mx_S0 8 2 12 0 [some (.ref a), some (.int p), some (.int w)] [] G I (fun rv Gz Iz => fl_person z p w = 0 ∧ rv = some (.int (nI (an_person z p.toInt.toNat w.toInt.toNat))) ∧ cP G I a z Gz Iz) (fun E Gz Iz => (fl_person z p w) ≠ 0 ∧ E = exN (fl_person z p w) ∧ cP G I a z Gz Iz)
  have hW0 := hW
  obtain ⟨⟨hSP, hsz, hpe⟩, hTx, hSt, hHi, hSl⟩ := hW
  have oSt : oST G (a + 37) := hSP.2.2.2.2.1.2
  obtain ⟨tg9, ⟨f0, oTx⟩, ⟨f1, oPt⟩, ⟨f2, oRd⟩, ⟨f3, -⟩, ⟨f4, oDr⟩, ⟨f5, oHi⟩, ⟨f6, gSl, lSl, ⟨rq0, oS0⟩, ⟨rq1, oS1⟩⟩, ⟨f7, gFi, lFi⟩, ⟨f8, oSe⟩, ⟨f9, oTr⟩, ⟨f10, oBp⟩⟩ := hSP
  have tg0 : mx_tg G (a + 1) = 17 := oTx.1
  have tg1 : mx_tg G (a + 3) = 12 := oPt.1
  have tg2 : mx_tg G (a + 8) = 13 := oRd.1
  have tg3 : mx_tg G (a + 37) = 16 := oSt.1
  have tg4 : mx_tg G (a + 42) = 16 := oDr.1
  have tg5 : mx_tg G (a + 47) = 11 := oHi.1
  have tg6 : mx_tg G (a + 131) = 15 := oSe.1
  have tg7 : mx_tg G (a + 136) = 15 := oTr.1
  have tg8 : mx_tg G (a + 141) = 10 := oBp.1
  obtain ⟨rT, tT, lT⟩ : mx_rf G (a + 1) 0 = a + 2 ∧ mx_tg G (a + 2) = 2 ∧ mx_ln G (a + 2) = 110 := oTx.2
  have oSt0 : oST G (a + 37) := oSt
  obtain ⟨-, ⟨rF, tF, lF⟩, ⟨rK, tK, lK⟩, ⟨rO, tO, lO⟩, ⟨rC, tC, lC⟩⟩ : mx_tg G (a + 37) = 16 ∧ (mx_rf G (a + 37) 2 = a + 38 ∧ mx_tg G (a + 38) = 1 ∧ mx_ln G (a + 38) = 25) ∧ (mx_rf G (a + 37) 3 = a + 39 ∧ mx_tg G (a + 39) = 1 ∧ mx_ln G (a + 39) = 25) ∧ (mx_rf G (a + 37) 4 = a + 40 ∧ mx_tg G (a + 40) = 1 ∧ mx_ln G (a + 40) = 25) ∧ (mx_rf G (a + 37) 5 = a + 41 ∧ mx_tg G (a + 41) = 1 ∧ mx_ln G (a + 41) = 25) := oSt
  have hSv : stN I (a + 37) (zG z) := hSt.1
  obtain ⟨⟨hP8, hN25, hvb⟩, hs0, hs1, hsF, hsK, hsT, hsC⟩ : stN I (a + 37) (zG z) := hSt.1
  have hN24 : gN (zG z) ≤ 24 := hSt.2.1.1
  have hTx0 := hTx
  obtain ⟨hn110, ht1, htc, htb⟩ : txN I (a + 1) (zN z) (zT z) := hTx
  obtain ⟨pt, hpt⟩ : ∃ pt, mx_rf G (a + 37) 6 = pt := ⟨_, rfl⟩
  have he0 : env G I (a + 37) pt (zG z) (vA (zX z)) := by rw [← hpt]; exact hW0.env
  have hpd : pt = a + 3 ∨ a + 146 ≤ pt := by rw [← hpt]; exact hW0.2.2.1.2.2.1
  have hpd5 : pt + 5 ≤ mx_sz G := by rw [← hpt]; exact hW0.2.2.1.2.2.2.1
  have tgp : mx_tg G pt = 12 := he0.2.1.1
  obtain ⟨rch, tch, lch⟩ : mx_rf G pt 0 = pt + 1 ∧ mx_tg G (pt + 1) = 2 ∧ mx_ln G (pt + 1) = 40 := he0.2.1.2.1
  have hpn : ptN I pt (vA (zX z)) := he0.2.2.2.2
  have hwfp : wfP (vA (zX z)) := hpn.1
  have hwfg : wfG (zG z) := he0.2.2.2.1.1
  have hn40 : (zX z).2.1 ≤ 40 := hSt.2.1.2.1
  have hpz : I pt 1 = nI (zX z).2.1 := by
    rw [hpn.2.1, show pSz (vA (zX z)) = min (zX z).2.1 40 from (rdF_sz _ _).1, Nat.min_eq_left hn40]
  have hpl : I pt 2 = nI (pL (vA (zX z))) := hpn.2.2.1
  have hpc : ∀ i, i < (zX z).2.1 → I (pt + 1) i = nI ((zX z).2.2 i) := fun i hi => by
    have h := hpn.2.2.2.2.1 i (by rw [show pSz (vA (zX z)) = min (zX z).2.1 40 from (rdF_sz _ _).1, Nat.min_eq_left hn40]; exact hi)
    rw [h, show pCh (vA (zX z)) = (zX z).2.2 from (rdF_sz _ _).2]
  have hpc8 : ∀ i, i < (zX z).2.1 → (zX z).2.2 i < 256 := hSt.2.1.2.2.2
  have J26 : ∀ (_ : Unit), (0 ≤ p.toInt ∧ p.toInt < (gP (zG z) : Int)) → mx_V mX9_person mx_S0 8 1 6 26 [some (.ref a), some (.int p), some (.int w)] [.int (mx_b (decide (0 ≤ w.toInt ∧ w.toInt ≤ 3)))] G I (fun rv Gz Iz => fl_person z p w = 0 ∧ rv = some (.int (nI (an_person z p.toInt.toNat w.toInt.toNat))) ∧ cP G I a z Gz Iz) (fun E Gz Iz => (fl_person z p w) ≠ 0 ∧ E = exN (fl_person z p w) ∧ cP G I a z Gz Iz) := by
    intro _ k1
    refine mx_iconstN 2 dX9_person_26 (by decide) ?_
    refine mx_callS (As := [.int (mx_b (decide (0 ≤ w.toInt ∧ w.toInt ≤ 3))), .int (nI 2)]) (rest := []) (b1 := 1) (b2 := 6) dX9_person_27 (ct_require G I (0 ≤ w.toInt ∧ w.toInt ≤ 3) 2 (by decide)) km_X9_require rfl k_338 k_339 rfl rfl (Nat.le_of_ble_eq_true rfl) (by decide) (fun E G9 I9 h9 => mx_xo rfl (by have hf : fl_person z p w = 2 := (by unfold fl_person; rw [if_neg (fun q => q k1), if_pos h9.1]); show (fl_person z p w) ≠ 0 ∧ E = exN (fl_person z p w) ∧ cP G I a z G9 I9; rw [hf]; exact ⟨by decide, hW0.id.thw h9.2.2⟩)) (fun r1 G3 I2 h4 => ?_)
    obtain ⟨e0, e1, e2, e3⟩ := h4
    have e2 := e2.symm
    subst e1; subst e2; subst e3
    have k2 : 0 ≤ w.toInt ∧ w.toInt ≤ 3 := e0.resolve_right (by decide)
    clear e0
    refine mx_iload_n (i := 2) (hi := rfl) (hl := rfl) (hd := dX9_person_30) ?_
    obtain ⟨wn, hwn, hw⟩ : ∃ wn, wn ≤ 3 ∧ w = nI wn := ⟨w.toInt.toNat, by omega, (mx_nn (by omega)).symm⟩
    have hk : w.toInt.toNat = wn := by rw [hw]; exact nI_tt (by omega)
    rcases (show wn = 0 ∨ wn = 1 ∨ wn = 2 ∨ wn = 3 by omega) with rfl | rfl | rfl | rfl
    · refine mx_top (y := nI 0) hw ?_
      refine mx_tabIn (tgt := 56) dX9_person_31 (by decide) (by decide) rfl (by decide) ?_
      refine mx_aload_n (i := 0) (hi := rfl) (hl := rfl) (hd := dX9_person_56) ?_
      refine mx_getR (ci := 9) (k := 3) (r := (a + 37)) dX9_person_57 k_299 (by decide) rfl (by assumption) (by assumption) (by omega) ?_
      refine mx_aload_n (i := 0) (hi := rfl) (hl := rfl) (hd := dX9_person_60) ?_
      refine mx_getR (ci := 9) (k := 3) (r := (a + 37)) dX9_person_61 k_299 (by decide) rfl (by assumption) (by assumption) (by omega) ?_
      refine mx_getR (ci := 6) (k := 2) (r := (a + 38)) dX9_person_64 k_175 (by decide) rfl (by assumption) (by assumption) (by omega) ?_
      refine mx_iload_n (i := 1) (hi := rfl) (hl := rfl) (hd := dX9_person_67) ?_
      refine mx_callVp (ci := 6) (As := [.ref (a + 38), .int p]) (rest := []) dX9_person_68 ((ct_countOf G I (a + 37) _ oSt0 hSv (a + 38) (gF (zG z)) p.toInt.toNat (by omega) (by assumption) (by assumption) hsF (fun s hs => by have := hvb s hs; omega)).eq (by rw [mx_nn k1.1]) rfl) km_X6_countOf rfl k_731 k_732 k_733 (by assumption) rfl rfl (Nat.le_of_ble_eq_true rfl) (by decide) ?_
      exact mx_iret dX9_person_71 rfl rfl (⟨by unfold fl_person; rw [if_neg (fun q => q k1), if_neg (fun q => q k2)], by rw [hk, an_person_0], hW0.id⟩)
    · refine mx_top (y := nI 1) hw ?_
      refine mx_tabIn (tgt := 72) dX9_person_31 (by decide) (by decide) rfl (by decide) ?_
      refine mx_aload_n (i := 0) (hi := rfl) (hl := rfl) (hd := dX9_person_72) ?_
      refine mx_getR (ci := 9) (k := 3) (r := (a + 37)) dX9_person_73 k_299 (by decide) rfl (by assumption) (by assumption) (by omega) ?_
      refine mx_aload_n (i := 0) (hi := rfl) (hl := rfl) (hd := dX9_person_76) ?_
      refine mx_getR (ci := 9) (k := 3) (r := (a + 37)) dX9_person_77 k_299 (by decide) rfl (by assumption) (by assumption) (by omega) ?_
      refine mx_getR (ci := 6) (k := 4) (r := (a + 40)) dX9_person_80 k_183 (by decide) rfl (by assumption) (by assumption) (by omega) ?_
      refine mx_iload_n (i := 1) (hi := rfl) (hl := rfl) (hd := dX9_person_83) ?_
      refine mx_callVp (ci := 6) (As := [.ref (a + 40), .int p]) (rest := []) dX9_person_84 ((ct_countOf G I (a + 37) _ oSt0 hSv (a + 40) (gT (zG z)) p.toInt.toNat (by omega) (by assumption) (by assumption) hsT (fun s hs => by have := hvb s hs; omega)).eq (by rw [mx_nn k1.1]) rfl) km_X6_countOf rfl k_731 k_732 k_733 (by assumption) rfl rfl (Nat.le_of_ble_eq_true rfl) (by decide) ?_
      exact mx_iret dX9_person_87 rfl rfl (⟨by unfold fl_person; rw [if_neg (fun q => q k1), if_neg (fun q => q k2)], by rw [hk, an_person_1], hW0.id⟩)
    · refine mx_top (y := nI 2) hw ?_
      refine mx_tabIn (tgt := 88) dX9_person_31 (by decide) (by decide) rfl (by decide) ?_
      refine mx_aload_n (i := 0) (hi := rfl) (hl := rfl) (hd := dX9_person_88) ?_
      refine mx_getR (ci := 9) (k := 8) (r := (a + 131)) dX9_person_89 k_304 (by decide) rfl (by assumption) (by assumption) (by omega) ?_
      refine mx_aload_n (i := 0) (hi := rfl) (hl := rfl) (hd := dX9_person_92) ?_
      refine mx_getR (ci := 9) (k := 3) (r := (a + 37)) dX9_person_93 k_299 (by decide) rfl (by assumption) (by assumption) (by omega) ?_
      refine mx_iload_n (i := 1) (hi := rfl) (hl := rfl) (hd := dX9_person_96) ?_
      refine mx_callVi (ci := 5) (As := [.ref (a + 37), .int p]) (rest := []) dX9_person_97 ((ct_peopleFrom G I (a + 131) oSe (a + 37) pt _ _ he0 (qd_o (by decide)) (pd_o hpd (by decide)) p.toInt.toNat (by omega)).eq (by rw [mx_nn k1.1])) km_X5_peopleFrom rfl k_616 k_617 k_618 (by assumption) rfl rfl (Nat.le_of_ble_eq_true rfl) (by decide) (fun r5 I2 h6 => ?_)
      obtain ⟨e9, m3⟩ := h6
      subst e9
      have hP2 := hW0.scr m3 (by omega)
      exact mx_iret dX9_person_100 rfl rfl (⟨by unfold fl_person; rw [if_neg (fun q => q k1), if_neg (fun q => q k2)], by rw [hk, an_person_2], hP2⟩)
    · refine mx_top (y := nI 3) hw ?_
      refine mx_tabOut (tgt := 101) dX9_person_31 (by decide) (by decide) ?_
      refine mx_aload_n (i := 0) (hi := rfl) (hl := rfl) (hd := dX9_person_101) ?_
      refine mx_getR (ci := 9) (k := 8) (r := (a + 131)) dX9_person_102 k_304 (by decide) rfl (by assumption) (by assumption) (by omega) ?_
      refine mx_aload_n (i := 0) (hi := rfl) (hl := rfl) (hd := dX9_person_105) ?_
      refine mx_getR (ci := 9) (k := 3) (r := (a + 37)) dX9_person_106 k_299 (by decide) rfl (by assumption) (by assumption) (by omega) ?_
      refine mx_iload_n (i := 1) (hi := rfl) (hl := rfl) (hd := dX9_person_109) ?_
      refine mx_callVi (ci := 5) (As := [.ref (a + 37), .int p]) (rest := []) dX9_person_110 ((ct_peopleTo G I (a + 131) oSe (a + 37) pt _ _ he0 (qd_o (by decide)) (pd_o hpd (by decide)) p.toInt.toNat (by omega)).eq (by rw [mx_nn k1.1])) km_X5_peopleTo rfl k_735 k_736 k_737 (by assumption) rfl rfl (Nat.le_of_ble_eq_true rfl) (by decide) (fun r7 I2 h8 => ?_)
      obtain ⟨e9, m3⟩ := h8
      subst e9
      have hP2 := hW0.scr m3 (by omega)
      exact mx_iret dX9_person_113 rfl rfl (⟨by unfold fl_person; rw [if_neg (fun q => q k1), if_neg (fun q => q k2)], by rw [hk, an_person_3], hP2⟩)
  refine mx_aload_n (i := 0) (hi := rfl) (hl := rfl) (hd := dX9_person_0) ?_
  refine mx_getR (ci := 9) (k := 3) (r := (a + 37)) dX9_person_1 k_299 (by decide) rfl (by assumption) (by assumption) (by omega) ?_
  refine mx_iload_n (i := 1) (hi := rfl) (hl := rfl) (hd := dX9_person_4) ?_
  refine mx_callVp (ci := 6) (As := [.int p]) (rest := []) dX9_person_5 (ct_hasPerson G I (a + 37) _ oSt0 hSv p) km_X6_hasPerson rfl k_615 k_470 k_471 (by assumption) rfl rfl (Nat.le_of_ble_eq_true rfl) (by decide) ?_
  refine mx_iconstN 1 dX9_person_8 (by decide) ?_
  refine mx_callS (As := [.int (mx_b (decide (0 ≤ p.toInt ∧ p.toInt < (gP (zG z) : Int)))), .int (nI 1)]) (rest := []) (b1 := 1) (b2 := 6) dX9_person_9 (ct_require G I (0 ≤ p.toInt ∧ p.toInt < (gP (zG z) : Int)) 1 (by decide)) km_X9_require rfl k_338 k_339 rfl rfl (Nat.le_of_ble_eq_true rfl) (by decide) (fun E G9 I9 h9 => mx_xo rfl (by have hf : fl_person z p w = 1 := (by unfold fl_person; rw [if_pos h9.1]); show (fl_person z p w) ≠ 0 ∧ E = exN (fl_person z p w) ∧ cP G I a z G9 I9; rw [hf]; exact ⟨by decide, hW0.id.thw h9.2.2⟩)) (fun r9 G11 I10 h12 => ?_)
  obtain ⟨e0, e1, e2, e3⟩ := h12
  have e2 := e2.symm
  subst e1; subst e2; subst e3
  have k1 : 0 ≤ p.toInt ∧ p.toInt < (gP (zG z) : Int) := e0.resolve_right (by decide)
  clear e0
  refine mx_iload_n (i := 2) (hi := rfl) (hl := rfl) (hd := dX9_person_12) ?_
  refine mx_ifR_lt 25 dX9_person_13 (by decide) (fun c13 => ?_) (fun c13 => ?_)
  · skip
    refine mx_iconstN 0 dX9_person_25 (by decide) ?_
    refine mx_top (y := mx_b (decide (0 ≤ w.toInt ∧ w.toInt ≤ 3))) (mx_bF (by omega)) ?_
    exact J26 () k1
  · skip
    refine mx_iload_n (i := 2) (hi := rfl) (hl := rfl) (hd := dX9_person_16) ?_
    refine mx_iconstN 3 dX9_person_17 (by decide) ?_
    refine mx_cmpRN_gt 25 dX9_person_18 (by decide) (by omega) (fun c18 => ?_) (fun c18 => ?_)
    · skip
      refine mx_iconstN 0 dX9_person_25 (by decide) ?_
      refine mx_top (y := mx_b (decide (0 ≤ w.toInt ∧ w.toInt ≤ 3))) (mx_bF (by omega)) ?_
      exact J26 () k1
    · skip
      refine mx_iconstN 1 dX9_person_21 (by decide) ?_
      refine mx_goto (tgt := 26) dX9_person_22 (by decide) ?_
      refine mx_top (y := mx_b (decide (0 ≤ w.toInt ∧ w.toInt ≤ 3))) (mx_bT (by omega)) ?_
      exact J26 () k1

def fl_find (z : Zs) (p k q : Int32) : Nat := if ¬ ((0 ≤ p.toInt ∧ p.toInt < (gP (zG z) : Int)) ∧ (0 ≤ q.toInt ∧ q.toInt < (gP (zG z) : Int))) then 1 else if ¬ (¬ p = q ∧ 0 ≤ k.toInt ∧ k.toInt < 4) then 2 else 0
def an_find (z : Zs) (p k q : Nat) : Option Nat := gIx (zG z) p k q
def fl_patternAt (i : Int32) : Nat := if ¬ 0 ≤ i.toInt then 2 else 0
def an_patternAt (z : Zs) (i : Nat) : Int32 := if i < (zX z).2.1 then nI ((zX z).2.2 i) else -9
def fl_two (z : Zs) (p q : Int32) : Nat := if ¬ ((0 ≤ p.toInt ∧ p.toInt < (gP (zG z) : Int)) ∧ (0 ≤ q.toInt ∧ q.toInt < (gP (zG z) : Int))) then 1 else 0

set_option maxHeartbeats 400000 in
set_option maxRecDepth 100000 in
theorem ct_find (G : mx_G) (I : mx_I) (a : Nat) (z : Zs) (hW : cW G I a z) (p k q : Int32) : mx_CT yX9_find mX9_find 8 2 12 [.ref a, .int p, .int k, .int q] G I (fun rv Gz Iz => fl_find z p k q = 0 ∧ rv = some (.int (oI (an_find z p.toInt.toNat k.toInt.toNat q.toInt.toNat))) ∧ cP G I a z Gz Iz) (fun E Gz Iz => (fl_find z p k q) ≠ 0 ∧ E = exN (fl_find z p k q) ∧ cP G I a z Gz Iz) := by
  refine mx_start (k := 0) (by decide) rfl rfl (fun h => nomatch h) (Nat.le_of_ble_eq_true rfl) ?_
  show mx_V mX9_find mx_S0 8 2 12 0 [some (.ref a), some (.int p), some (.int k), some (.int q)] [] G I (fun rv Gz Iz => fl_find z p k q = 0 ∧ rv = some (.int (oI (an_find z p.toInt.toNat k.toInt.toNat q.toInt.toNat))) ∧ cP G I a z Gz Iz) (fun E Gz Iz => (fl_find z p k q) ≠ 0 ∧ E = exN (fl_find z p k q) ∧ cP G I a z Gz Iz)
  have hW0 := hW
  obtain ⟨⟨hSP, hsz, hpe⟩, hTx, hSt, hHi, hSl⟩ := hW
  have oSt : oST G (a + 37) := hSP.2.2.2.2.1.2
  obtain ⟨tg9, ⟨f0, oTx⟩, ⟨f1, oPt⟩, ⟨f2, oRd⟩, ⟨f3, -⟩, ⟨f4, oDr⟩, ⟨f5, oHi⟩, ⟨f6, gSl, lSl, ⟨rq0, oS0⟩, ⟨rq1, oS1⟩⟩, ⟨f7, gFi, lFi⟩, ⟨f8, oSe⟩, ⟨f9, oTr⟩, ⟨f10, oBp⟩⟩ := hSP
  have tg0 : mx_tg G (a + 1) = 17 := oTx.1
  have tg1 : mx_tg G (a + 3) = 12 := oPt.1
  have tg2 : mx_tg G (a + 8) = 13 := oRd.1
  have tg3 : mx_tg G (a + 37) = 16 := oSt.1
  have tg4 : mx_tg G (a + 42) = 16 := oDr.1
  have tg5 : mx_tg G (a + 47) = 11 := oHi.1
  have tg6 : mx_tg G (a + 131) = 15 := oSe.1
  have tg7 : mx_tg G (a + 136) = 15 := oTr.1
  have tg8 : mx_tg G (a + 141) = 10 := oBp.1
  obtain ⟨rT, tT, lT⟩ : mx_rf G (a + 1) 0 = a + 2 ∧ mx_tg G (a + 2) = 2 ∧ mx_ln G (a + 2) = 110 := oTx.2
  have oSt0 : oST G (a + 37) := oSt
  obtain ⟨-, ⟨rF, tF, lF⟩, ⟨rK, tK, lK⟩, ⟨rO, tO, lO⟩, ⟨rC, tC, lC⟩⟩ : mx_tg G (a + 37) = 16 ∧ (mx_rf G (a + 37) 2 = a + 38 ∧ mx_tg G (a + 38) = 1 ∧ mx_ln G (a + 38) = 25) ∧ (mx_rf G (a + 37) 3 = a + 39 ∧ mx_tg G (a + 39) = 1 ∧ mx_ln G (a + 39) = 25) ∧ (mx_rf G (a + 37) 4 = a + 40 ∧ mx_tg G (a + 40) = 1 ∧ mx_ln G (a + 40) = 25) ∧ (mx_rf G (a + 37) 5 = a + 41 ∧ mx_tg G (a + 41) = 1 ∧ mx_ln G (a + 41) = 25) := oSt
  have hSv : stN I (a + 37) (zG z) := hSt.1
  obtain ⟨⟨hP8, hN25, hvb⟩, hs0, hs1, hsF, hsK, hsT, hsC⟩ : stN I (a + 37) (zG z) := hSt.1
  have hN24 : gN (zG z) ≤ 24 := hSt.2.1.1
  have hTx0 := hTx
  obtain ⟨hn110, ht1, htc, htb⟩ : txN I (a + 1) (zN z) (zT z) := hTx
  have J30 : ∀ (_ : Unit), ((0 ≤ p.toInt ∧ p.toInt < (gP (zG z) : Int)) ∧ (0 ≤ q.toInt ∧ q.toInt < (gP (zG z) : Int))) → mx_V mX9_find mx_S0 8 1 6 30 [some (.ref a), some (.int p), some (.int k), some (.int q)] [.int (mx_b (decide (¬ p = q ∧ 0 ≤ k.toInt ∧ k.toInt < 4)))] G I (fun rv Gz Iz => fl_find z p k q = 0 ∧ rv = some (.int (oI (an_find z p.toInt.toNat k.toInt.toNat q.toInt.toNat))) ∧ cP G I a z Gz Iz) (fun E Gz Iz => (fl_find z p k q) ≠ 0 ∧ E = exN (fl_find z p k q) ∧ cP G I a z Gz Iz) := by
    intro _ k1
    refine mx_iconstN 2 dX9_find_30 (by decide) ?_
    refine mx_callS (As := [.int (mx_b (decide (¬ p = q ∧ 0 ≤ k.toInt ∧ k.toInt < 4))), .int (nI 2)]) (rest := []) (b1 := 1) (b2 := 6) dX9_find_31 (ct_require G I (¬ p = q ∧ 0 ≤ k.toInt ∧ k.toInt < 4) 2 (by decide)) km_X9_require rfl k_338 k_339 rfl rfl (Nat.le_of_ble_eq_true rfl) (by decide) (fun E G9 I9 h9 => mx_xo rfl (by have hf : fl_find z p k q = 2 := (by unfold fl_find; rw [if_neg (fun q => q k1), if_pos h9.1]); show (fl_find z p k q) ≠ 0 ∧ E = exN (fl_find z p k q) ∧ cP G I a z G9 I9; rw [hf]; exact ⟨by decide, hW0.id.thw h9.2.2⟩)) (fun r1 G3 I2 h4 => ?_)
    obtain ⟨e0, e1, e2, e3⟩ := h4
    have e2 := e2.symm
    subst e1; subst e2; subst e3
    have k2 : ¬ p = q ∧ 0 ≤ k.toInt ∧ k.toInt < 4 := e0.resolve_right (by decide)
    clear e0
    refine mx_aload_n (i := 0) (hi := rfl) (hl := rfl) (hd := dX9_find_34) ?_
    refine mx_getR (ci := 9) (k := 3) (r := (a + 37)) dX9_find_35 k_299 (by decide) rfl (by assumption) (by assumption) (by omega) ?_
    refine mx_iload_n (i := 1) (hi := rfl) (hl := rfl) (hd := dX9_find_38) ?_
    refine mx_iload_n (i := 2) (hi := rfl) (hl := rfl) (hd := dX9_find_39) ?_
    refine mx_iload_n (i := 3) (hi := rfl) (hl := rfl) (hd := dX9_find_40) ?_
    refine mx_callVp (ci := 6) (As := [.int p, .int k, .int q]) (rest := []) dX9_find_41 (ct_indexOfR G I (a + 37) _ oSt0 hSv p k q k1.1.1 k2.2.1 k1.2.1) km_X6_indexOf rfl k_747 k_480 k_481 (by assumption) rfl rfl (Nat.le_of_ble_eq_true rfl) (by decide) ?_
    exact mx_iret dX9_find_44 rfl rfl (⟨by unfold fl_find; rw [if_neg (fun q => q k1), if_neg (fun q => q k2)], rfl, hW0.id⟩)
  refine mx_aload_n (i := 0) (hi := rfl) (hl := rfl) (hd := dX9_find_0) ?_
  refine mx_getR (ci := 9) (k := 3) (r := (a + 37)) dX9_find_1 k_299 (by decide) rfl (by assumption) (by assumption) (by omega) ?_
  refine mx_iload_n (i := 1) (hi := rfl) (hl := rfl) (hd := dX9_find_4) ?_
  refine mx_iload_n (i := 3) (hi := rfl) (hl := rfl) (hd := dX9_find_5) ?_
  refine mx_callVp (ci := 6) (As := [.int p, .int q]) (rest := []) dX9_find_6 (ct_hasPeople G I (a + 37) _ oSt0 hSv p q) km_X6_hasPeople rfl k_533 k_466 k_467 (by assumption) rfl rfl (Nat.le_of_ble_eq_true rfl) (by decide) ?_
  refine mx_iconstN 1 dX9_find_9 (by decide) ?_
  refine mx_callS (As := [.int (mx_b (decide ((0 ≤ p.toInt ∧ p.toInt < (gP (zG z) : Int)) ∧ (0 ≤ q.toInt ∧ q.toInt < (gP (zG z) : Int))))), .int (nI 1)]) (rest := []) (b1 := 1) (b2 := 6) dX9_find_10 (ct_require G I ((0 ≤ p.toInt ∧ p.toInt < (gP (zG z) : Int)) ∧ (0 ≤ q.toInt ∧ q.toInt < (gP (zG z) : Int))) 1 (by decide)) km_X9_require rfl k_338 k_339 rfl rfl (Nat.le_of_ble_eq_true rfl) (by decide) (fun E G9 I9 h9 => mx_xo rfl (by have hf : fl_find z p k q = 1 := (by unfold fl_find; rw [if_pos h9.1]); show (fl_find z p k q) ≠ 0 ∧ E = exN (fl_find z p k q) ∧ cP G I a z G9 I9; rw [hf]; exact ⟨by decide, hW0.id.thw h9.2.2⟩)) (fun r5 G7 I6 h8 => ?_)
  obtain ⟨e0, e1, e2, e3⟩ := h8
  have e2 := e2.symm
  subst e1; subst e2; subst e3
  have k1 : (0 ≤ p.toInt ∧ p.toInt < (gP (zG z) : Int)) ∧ (0 ≤ q.toInt ∧ q.toInt < (gP (zG z) : Int)) := e0.resolve_right (by decide)
  clear e0
  refine mx_iload_n (i := 1) (hi := rfl) (hl := rfl) (hd := dX9_find_13) ?_
  refine mx_iload_n (i := 3) (hi := rfl) (hl := rfl) (hd := dX9_find_14) ?_
  refine mx_icmp_eq (tgt := 29) dX9_find_15 (by decide) (fun c15 => ?_) (fun c15 => ?_)
  · skip
    refine mx_iconstN 0 dX9_find_29 (by decide) ?_
    refine mx_top (y := mx_b (decide (¬ p = q ∧ 0 ≤ k.toInt ∧ k.toInt < 4))) (mx_bF (by first | exact fun z9 => z9.1 c15 | exact fun z9 => c22 z9.2 | omega)) ?_
    exact J30 () k1
  · skip
    refine mx_iload_n (i := 2) (hi := rfl) (hl := rfl) (hd := dX9_find_18) ?_
    refine mx_callSp (As := [.int k]) (rest := []) dX9_find_19 (ct_isKind G I k) km_X9_isKind rfl k_524 k_474 rfl rfl (Nat.le_of_ble_eq_true rfl) (by decide) ?_
    refine mx_ifB_eq 29 dX9_find_22 (by decide) (fun c22 => ?_) (fun c22 => ?_)
    · skip
      refine mx_iconstN 0 dX9_find_29 (by decide) ?_
      refine mx_top (y := mx_b (decide (¬ p = q ∧ 0 ≤ k.toInt ∧ k.toInt < 4))) (mx_bF (by first | exact fun z9 => z9.1 c15 | exact fun z9 => c22 z9.2 | omega)) ?_
      exact J30 () k1
    · skip
      refine mx_iconstN 1 dX9_find_25 (by decide) ?_
      refine mx_goto (tgt := 30) dX9_find_26 (by decide) ?_
      refine mx_top (y := mx_b (decide (¬ p = q ∧ 0 ≤ k.toInt ∧ k.toInt < 4))) (mx_bT (by first | exact ⟨c15, c22⟩ | omega)) ?_
      exact J30 () k1

set_option maxHeartbeats 400000 in
set_option maxRecDepth 100000 in
theorem ct_patternAt (G : mx_G) (I : mx_I) (a : Nat) (z : Zs) (hW : cW G I a z) (i : Int32) : mx_CT yX9_patternAt mX9_patternAt 8 1 6 [.ref a, .int i] G I (fun rv Gz Iz => fl_patternAt i = 0 ∧ rv = some (.int (an_patternAt z i.toInt.toNat)) ∧ cP G I a z Gz Iz) (fun E Gz Iz => (fl_patternAt i) ≠ 0 ∧ E = exN (fl_patternAt i) ∧ cP G I a z Gz Iz) := by
  refine mx_start (k := 0) (by decide) rfl rfl (fun h => nomatch h) (Nat.le_of_ble_eq_true rfl) ?_
  show mx_V mX9_patternAt mx_S0 8 1 6 0 [some (.ref a), some (.int i)] [] G I (fun rv Gz Iz => fl_patternAt i = 0 ∧ rv = some (.int (an_patternAt z i.toInt.toNat)) ∧ cP G I a z Gz Iz) (fun E Gz Iz => (fl_patternAt i) ≠ 0 ∧ E = exN (fl_patternAt i) ∧ cP G I a z Gz Iz)
  have hW0 := hW
  obtain ⟨⟨hSP, hsz, hpe⟩, hTx, hSt, hHi, hSl⟩ := hW
  have oSt : oST G (a + 37) := hSP.2.2.2.2.1.2
  obtain ⟨tg9, ⟨f0, oTx⟩, ⟨f1, oPt⟩, ⟨f2, oRd⟩, ⟨f3, -⟩, ⟨f4, oDr⟩, ⟨f5, oHi⟩, ⟨f6, gSl, lSl, ⟨rq0, oS0⟩, ⟨rq1, oS1⟩⟩, ⟨f7, gFi, lFi⟩, ⟨f8, oSe⟩, ⟨f9, oTr⟩, ⟨f10, oBp⟩⟩ := hSP
  have tg0 : mx_tg G (a + 1) = 17 := oTx.1
  have tg1 : mx_tg G (a + 3) = 12 := oPt.1
  have tg2 : mx_tg G (a + 8) = 13 := oRd.1
  have tg3 : mx_tg G (a + 37) = 16 := oSt.1
  have tg4 : mx_tg G (a + 42) = 16 := oDr.1
  have tg5 : mx_tg G (a + 47) = 11 := oHi.1
  have tg6 : mx_tg G (a + 131) = 15 := oSe.1
  have tg7 : mx_tg G (a + 136) = 15 := oTr.1
  have tg8 : mx_tg G (a + 141) = 10 := oBp.1
  obtain ⟨rT, tT, lT⟩ : mx_rf G (a + 1) 0 = a + 2 ∧ mx_tg G (a + 2) = 2 ∧ mx_ln G (a + 2) = 110 := oTx.2
  have oSt0 : oST G (a + 37) := oSt
  obtain ⟨-, ⟨rF, tF, lF⟩, ⟨rK, tK, lK⟩, ⟨rO, tO, lO⟩, ⟨rC, tC, lC⟩⟩ : mx_tg G (a + 37) = 16 ∧ (mx_rf G (a + 37) 2 = a + 38 ∧ mx_tg G (a + 38) = 1 ∧ mx_ln G (a + 38) = 25) ∧ (mx_rf G (a + 37) 3 = a + 39 ∧ mx_tg G (a + 39) = 1 ∧ mx_ln G (a + 39) = 25) ∧ (mx_rf G (a + 37) 4 = a + 40 ∧ mx_tg G (a + 40) = 1 ∧ mx_ln G (a + 40) = 25) ∧ (mx_rf G (a + 37) 5 = a + 41 ∧ mx_tg G (a + 41) = 1 ∧ mx_ln G (a + 41) = 25) := oSt
  have hSv : stN I (a + 37) (zG z) := hSt.1
  obtain ⟨⟨hP8, hN25, hvb⟩, hs0, hs1, hsF, hsK, hsT, hsC⟩ : stN I (a + 37) (zG z) := hSt.1
  have hN24 : gN (zG z) ≤ 24 := hSt.2.1.1
  have hTx0 := hTx
  obtain ⟨hn110, ht1, htc, htb⟩ : txN I (a + 1) (zN z) (zT z) := hTx
  obtain ⟨pt, hpt⟩ : ∃ pt, mx_rf G (a + 37) 6 = pt := ⟨_, rfl⟩
  have he0 : env G I (a + 37) pt (zG z) (vA (zX z)) := by rw [← hpt]; exact hW0.env
  have hpd : pt = a + 3 ∨ a + 146 ≤ pt := by rw [← hpt]; exact hW0.2.2.1.2.2.1
  have hpd5 : pt + 5 ≤ mx_sz G := by rw [← hpt]; exact hW0.2.2.1.2.2.2.1
  have tgp : mx_tg G pt = 12 := he0.2.1.1
  obtain ⟨rch, tch, lch⟩ : mx_rf G pt 0 = pt + 1 ∧ mx_tg G (pt + 1) = 2 ∧ mx_ln G (pt + 1) = 40 := he0.2.1.2.1
  have hpn : ptN I pt (vA (zX z)) := he0.2.2.2.2
  have hwfp : wfP (vA (zX z)) := hpn.1
  have hwfg : wfG (zG z) := he0.2.2.2.1.1
  have hn40 : (zX z).2.1 ≤ 40 := hSt.2.1.2.1
  have hpz : I pt 1 = nI (zX z).2.1 := by
    rw [hpn.2.1, show pSz (vA (zX z)) = min (zX z).2.1 40 from (rdF_sz _ _).1, Nat.min_eq_left hn40]
  have hpl : I pt 2 = nI (pL (vA (zX z))) := hpn.2.2.1
  have hpc : ∀ i, i < (zX z).2.1 → I (pt + 1) i = nI ((zX z).2.2 i) := fun i hi => by
    have h := hpn.2.2.2.2.1 i (by rw [show pSz (vA (zX z)) = min (zX z).2.1 40 from (rdF_sz _ _).1, Nat.min_eq_left hn40]; exact hi)
    rw [h, show pCh (vA (zX z)) = (zX z).2.2 from (rdF_sz _ _).2]
  have hpc8 : ∀ i, i < (zX z).2.1 → (zX z).2.2 i < 256 := hSt.2.1.2.2.2
  have J9 : ∀ (_ : Unit), mx_V mX9_patternAt mx_S0 8 1 6 9 [some (.ref a), some (.int i)] [.int (mx_b (decide (0 ≤ i.toInt)))] G I (fun rv Gz Iz => fl_patternAt i = 0 ∧ rv = some (.int (an_patternAt z i.toInt.toNat)) ∧ cP G I a z Gz Iz) (fun E Gz Iz => (fl_patternAt i) ≠ 0 ∧ E = exN (fl_patternAt i) ∧ cP G I a z Gz Iz) := by
    intro _ 
    refine mx_iconstN 2 dX9_patternAt_9 (by decide) ?_
    refine mx_callS (As := [.int (mx_b (decide (0 ≤ i.toInt))), .int (nI 2)]) (rest := []) (b1 := 1) (b2 := 6) dX9_patternAt_10 (ct_require G I (0 ≤ i.toInt) 2 (by decide)) km_X9_require rfl k_338 k_339 rfl rfl (Nat.le_of_ble_eq_true rfl) (by decide) (fun E G9 I9 h9 => mx_xo rfl (by have hf : fl_patternAt i = 2 := (by unfold fl_patternAt; rw [if_pos h9.1]); show (fl_patternAt i) ≠ 0 ∧ E = exN (fl_patternAt i) ∧ cP G I a z G9 I9; rw [hf]; exact ⟨by decide, hW0.id.thw h9.2.2⟩)) (fun r1 G3 I2 h4 => ?_)
    obtain ⟨e0, e1, e2, e3⟩ := h4
    have e2 := e2.symm
    subst e1; subst e2; subst e3
    have k2 : 0 ≤ i.toInt := e0.resolve_right (by decide)
    clear e0
    refine mx_iload_n (i := 1) (hi := rfl) (hl := rfl) (hd := dX9_patternAt_13) ?_
    refine mx_aload_n (i := 0) (hi := rfl) (hl := rfl) (hd := dX9_patternAt_14) ?_
    refine mx_getR (ci := 9) (k := 3) (r := (a + 37)) dX9_patternAt_15 k_299 (by decide) rfl (by assumption) (by assumption) (by omega) ?_
    refine mx_getR (ci := 6) (k := 6) (r := pt) dX9_patternAt_18 k_193 (by decide) rfl (by assumption) (by assumption) (by omega) ?_
    refine mx_getV (ci := 2) (k := 1) (nI ((zX z).2.1)) dX9_patternAt_21 k_84 (by decide) rfl (by assumption) hpz ?_
    refine mx_cmpRN_ge 42 dX9_patternAt_24 (by decide) (by omega) (fun c24 => ?_) (fun c24 => ?_)
    · skip
      refine mx_bipush (v := (-9)) (by decide) dX9_patternAt_42 ?_
      exact mx_iret dX9_patternAt_44 rfl rfl (⟨by unfold fl_patternAt; rw [if_neg (fun q => q k2)], by unfold an_patternAt; rw [if_neg (by omega)], hW0.id⟩)
    · skip
      refine mx_aload_n (i := 0) (hi := rfl) (hl := rfl) (hd := dX9_patternAt_27) ?_
      refine mx_getR (ci := 9) (k := 3) (r := (a + 37)) dX9_patternAt_28 k_299 (by decide) rfl (by assumption) (by assumption) (by omega) ?_
      refine mx_getR (ci := 6) (k := 6) (r := pt) dX9_patternAt_31 k_193 (by decide) rfl (by assumption) (by assumption) (by omega) ?_
      refine mx_getR (ci := 2) (k := 0) (r := (pt + 1)) dX9_patternAt_34 k_82 (by decide) rfl (by assumption) (by assumption) (by omega) ?_
      refine mx_iload_n (i := 1) (hi := rfl) (hl := rfl) (hd := dX9_patternAt_37) ?_
      refine mx_caldV i.toInt.toNat (nI ((zX z).2.2 i.toInt.toNat)) dX9_patternAt_38 (by assumption) ⟨(mx_nn k2).symm, by omega, by omega⟩ (hpc i.toInt.toNat (by omega)) ?_
      refine mx_goto (tgt := 44) dX9_patternAt_39 (by decide) ?_
      exact mx_iret dX9_patternAt_44 rfl rfl (⟨by unfold fl_patternAt; rw [if_neg (fun q => q k2)], by unfold an_patternAt; rw [if_pos (by omega)], hW0.id⟩)
  refine mx_iload_n (i := 1) (hi := rfl) (hl := rfl) (hd := dX9_patternAt_0) ?_
  refine mx_ifR_lt 8 dX9_patternAt_1 (by decide) (fun c1 => ?_) (fun c1 => ?_)
  · skip
    refine mx_iconstN 0 dX9_patternAt_8 (by decide) ?_
    refine mx_top (y := mx_b (decide (0 ≤ i.toInt))) (mx_bF (by omega)) ?_
    exact J9 () 
  · skip
    refine mx_iconstN 1 dX9_patternAt_4 (by decide) ?_
    refine mx_goto (tgt := 9) dX9_patternAt_5 (by decide) ?_
    refine mx_top (y := mx_b (decide (0 ≤ i.toInt))) (mx_bT (by omega)) ?_
    exact J9 () 

def an_cost (z : Zs) (p q : Nat) : Option Nat := sCs (zG z) (vA (zX z)) p (some q) 0 1512 q
def an_length (z : Zs) (p q : Nat) : Option Nat := gfm (aFin (zG z) (vA (zX z)) q).2.2.1 p
def fl_pathAt (z : Zs) (p q i : Int32) : Nat := if ¬ ((0 ≤ p.toInt ∧ p.toInt < (gP (zG z) : Int)) ∧ (0 ≤ q.toInt ∧ q.toInt < (gP (zG z) : Int))) then 1 else if ¬ 0 ≤ i.toInt then 2 else 0
def an_pathAt (z : Zs) (p q i : Nat) : Option Nat := gAt (zG z) (vA (zX z)) (aFin (zG z) (vA (zX z)) q).2.2.1 p i

set_option maxHeartbeats 400000 in
set_option maxRecDepth 100000 in
theorem ct_cost (G : mx_G) (I : mx_I) (a : Nat) (z : Zs) (hW : cW G I a z) (p q : Int32) : mx_CT yX9_cost mX9_cost 8 1 6 [.ref a, .int p, .int q] G I (fun rv Gz Iz => fl_two z p q = 0 ∧ rv = some (.int (oI (an_cost z p.toInt.toNat q.toInt.toNat))) ∧ cP G I a z Gz Iz) (fun E Gz Iz => (fl_two z p q) ≠ 0 ∧ E = exN (fl_two z p q) ∧ cP G I a z Gz Iz) := by
  refine mx_start (k := 0) (by decide) rfl rfl (fun h => nomatch h) (Nat.le_of_ble_eq_true rfl) ?_
  show mx_V mX9_cost mx_S0 8 1 6 0 [some (.ref a), some (.int p), some (.int q)] [] G I (fun rv Gz Iz => fl_two z p q = 0 ∧ rv = some (.int (oI (an_cost z p.toInt.toNat q.toInt.toNat))) ∧ cP G I a z Gz Iz) (fun E Gz Iz => (fl_two z p q) ≠ 0 ∧ E = exN (fl_two z p q) ∧ cP G I a z Gz Iz)
  have hW0 := hW
  obtain ⟨⟨hSP, hsz, hpe⟩, hTx, hSt, hHi, hSl⟩ := hW
  have oSt : oST G (a + 37) := hSP.2.2.2.2.1.2
  obtain ⟨tg9, ⟨f0, oTx⟩, ⟨f1, oPt⟩, ⟨f2, oRd⟩, ⟨f3, -⟩, ⟨f4, oDr⟩, ⟨f5, oHi⟩, ⟨f6, gSl, lSl, ⟨rq0, oS0⟩, ⟨rq1, oS1⟩⟩, ⟨f7, gFi, lFi⟩, ⟨f8, oSe⟩, ⟨f9, oTr⟩, ⟨f10, oBp⟩⟩ := hSP
  have tg0 : mx_tg G (a + 1) = 17 := oTx.1
  have tg1 : mx_tg G (a + 3) = 12 := oPt.1
  have tg2 : mx_tg G (a + 8) = 13 := oRd.1
  have tg3 : mx_tg G (a + 37) = 16 := oSt.1
  have tg4 : mx_tg G (a + 42) = 16 := oDr.1
  have tg5 : mx_tg G (a + 47) = 11 := oHi.1
  have tg6 : mx_tg G (a + 131) = 15 := oSe.1
  have tg7 : mx_tg G (a + 136) = 15 := oTr.1
  have tg8 : mx_tg G (a + 141) = 10 := oBp.1
  obtain ⟨rT, tT, lT⟩ : mx_rf G (a + 1) 0 = a + 2 ∧ mx_tg G (a + 2) = 2 ∧ mx_ln G (a + 2) = 110 := oTx.2
  have oSt0 : oST G (a + 37) := oSt
  obtain ⟨-, ⟨rF, tF, lF⟩, ⟨rK, tK, lK⟩, ⟨rO, tO, lO⟩, ⟨rC, tC, lC⟩⟩ : mx_tg G (a + 37) = 16 ∧ (mx_rf G (a + 37) 2 = a + 38 ∧ mx_tg G (a + 38) = 1 ∧ mx_ln G (a + 38) = 25) ∧ (mx_rf G (a + 37) 3 = a + 39 ∧ mx_tg G (a + 39) = 1 ∧ mx_ln G (a + 39) = 25) ∧ (mx_rf G (a + 37) 4 = a + 40 ∧ mx_tg G (a + 40) = 1 ∧ mx_ln G (a + 40) = 25) ∧ (mx_rf G (a + 37) 5 = a + 41 ∧ mx_tg G (a + 41) = 1 ∧ mx_ln G (a + 41) = 25) := oSt
  have hSv : stN I (a + 37) (zG z) := hSt.1
  obtain ⟨⟨hP8, hN25, hvb⟩, hs0, hs1, hsF, hsK, hsT, hsC⟩ : stN I (a + 37) (zG z) := hSt.1
  have hN24 : gN (zG z) ≤ 24 := hSt.2.1.1
  have hTx0 := hTx
  obtain ⟨hn110, ht1, htc, htb⟩ : txN I (a + 1) (zN z) (zT z) := hTx
  obtain ⟨pt, hpt⟩ : ∃ pt, mx_rf G (a + 37) 6 = pt := ⟨_, rfl⟩
  have he0 : env G I (a + 37) pt (zG z) (vA (zX z)) := by rw [← hpt]; exact hW0.env
  have hpd : pt = a + 3 ∨ a + 146 ≤ pt := by rw [← hpt]; exact hW0.2.2.1.2.2.1
  have hpd5 : pt + 5 ≤ mx_sz G := by rw [← hpt]; exact hW0.2.2.1.2.2.2.1
  have tgp : mx_tg G pt = 12 := he0.2.1.1
  obtain ⟨rch, tch, lch⟩ : mx_rf G pt 0 = pt + 1 ∧ mx_tg G (pt + 1) = 2 ∧ mx_ln G (pt + 1) = 40 := he0.2.1.2.1
  have hpn : ptN I pt (vA (zX z)) := he0.2.2.2.2
  have hwfp : wfP (vA (zX z)) := hpn.1
  have hwfg : wfG (zG z) := he0.2.2.2.1.1
  have hn40 : (zX z).2.1 ≤ 40 := hSt.2.1.2.1
  have hpz : I pt 1 = nI (zX z).2.1 := by
    rw [hpn.2.1, show pSz (vA (zX z)) = min (zX z).2.1 40 from (rdF_sz _ _).1, Nat.min_eq_left hn40]
  have hpl : I pt 2 = nI (pL (vA (zX z))) := hpn.2.2.1
  have hpc : ∀ i, i < (zX z).2.1 → I (pt + 1) i = nI ((zX z).2.2 i) := fun i hi => by
    have h := hpn.2.2.2.2.1 i (by rw [show pSz (vA (zX z)) = min (zX z).2.1 40 from (rdF_sz _ _).1, Nat.min_eq_left hn40]; exact hi)
    rw [h, show pCh (vA (zX z)) = (zX z).2.2 from (rdF_sz _ _).2]
  have hpc8 : ∀ i, i < (zX z).2.1 → (zX z).2.2 i < 256 := hSt.2.1.2.2.2
  refine mx_aload_n (i := 0) (hi := rfl) (hl := rfl) (hd := dX9_cost_0) ?_
  refine mx_getR (ci := 9) (k := 3) (r := (a + 37)) dX9_cost_1 k_299 (by decide) rfl (by assumption) (by assumption) (by omega) ?_
  refine mx_iload_n (i := 1) (hi := rfl) (hl := rfl) (hd := dX9_cost_4) ?_
  refine mx_iload_n (i := 2) (hi := rfl) (hl := rfl) (hd := dX9_cost_5) ?_
  refine mx_callVp (ci := 6) (As := [.int p, .int q]) (rest := []) dX9_cost_6 (ct_hasPeople G I (a + 37) _ oSt0 hSv p q) km_X6_hasPeople rfl k_533 k_466 k_467 (by assumption) rfl rfl (Nat.le_of_ble_eq_true rfl) (by decide) ?_
  refine mx_iconstN 1 dX9_cost_9 (by decide) ?_
  refine mx_callS (As := [.int (mx_b (decide ((0 ≤ p.toInt ∧ p.toInt < (gP (zG z) : Int)) ∧ (0 ≤ q.toInt ∧ q.toInt < (gP (zG z) : Int))))), .int (nI 1)]) (rest := []) (b1 := 1) (b2 := 6) dX9_cost_10 (ct_require G I ((0 ≤ p.toInt ∧ p.toInt < (gP (zG z) : Int)) ∧ (0 ≤ q.toInt ∧ q.toInt < (gP (zG z) : Int))) 1 (by decide)) km_X9_require rfl k_338 k_339 rfl rfl (Nat.le_of_ble_eq_true rfl) (by decide) (fun E G9 I9 h9 => mx_xo rfl (by have hf : fl_two z p q = 1 := (by unfold fl_two; rw [if_pos h9.1]); show (fl_two z p q) ≠ 0 ∧ E = exN (fl_two z p q) ∧ cP G I a z G9 I9; rw [hf]; exact ⟨by decide, hW0.id.thw h9.2.2⟩)) (fun r1 G3 I2 h4 => ?_)
  obtain ⟨e0, e1, e2, e3⟩ := h4
  have e2 := e2.symm
  subst e1; subst e2; subst e3
  have k1 : (0 ≤ p.toInt ∧ p.toInt < (gP (zG z) : Int)) ∧ (0 ≤ q.toInt ∧ q.toInt < (gP (zG z) : Int)) := e0.resolve_right (by decide)
  clear e0
  refine mx_aload_n (i := 0) (hi := rfl) (hl := rfl) (hd := dX9_cost_13) ?_
  refine mx_getR (ci := 9) (k := 8) (r := (a + 131)) dX9_cost_14 k_304 (by decide) rfl (by assumption) (by assumption) (by omega) ?_
  refine mx_aload_n (i := 0) (hi := rfl) (hl := rfl) (hd := dX9_cost_17) ?_
  refine mx_getR (ci := 9) (k := 3) (r := (a + 37)) dX9_cost_18 k_299 (by decide) rfl (by assumption) (by assumption) (by omega) ?_
  refine mx_iload_n (i := 1) (hi := rfl) (hl := rfl) (hd := dX9_cost_21) ?_
  refine mx_iload_n (i := 2) (hi := rfl) (hl := rfl) (hd := dX9_cost_22) ?_
  refine mx_iconstN 0 dX9_cost_23 (by decide) ?_
  refine mx_sipushN 1512 dX9_cost_24 (by decide) ?_
  refine mx_callVi (ci := 5) (As := [.ref (a + 37), .int p, .int q, .int (nI 0), .int (nI 1512)]) (rest := []) dX9_cost_27 ((ct_between G I (a + 131) oSe (a + 37) pt _ _ he0 (qd_o (by decide)) (pd_o hpd (by decide)) p.toInt.toNat q.toInt.toNat 0 1512 (by omega) (by omega) (by decide) (by decide)).eq (by rw [mx_nn k1.1.1, mx_nn k1.2.1])) km_X5_between rfl k_534 k_535 k_536 (by assumption) rfl rfl (Nat.le_of_ble_eq_true rfl) (by decide) (fun r5 I2 h6 => ?_)
  obtain ⟨e9, m3⟩ := h6
  subst e9
  have hP2 := hW0.scr m3 (by omega)
  exact mx_iret dX9_cost_30 rfl rfl (⟨by unfold fl_two; rw [if_neg (fun q => q k1)], rfl, hP2⟩)

set_option maxHeartbeats 400000 in
set_option maxRecDepth 100000 in
theorem ct_length (G : mx_G) (I : mx_I) (a : Nat) (z : Zs) (hW : cW G I a z) (p q : Int32) : mx_CT yX9_length mX9_length 8 1 6 [.ref a, .int p, .int q] G I (fun rv Gz Iz => fl_two z p q = 0 ∧ rv = some (.int (oI (an_length z p.toInt.toNat q.toInt.toNat))) ∧ cP G I a z Gz Iz) (fun E Gz Iz => (fl_two z p q) ≠ 0 ∧ E = exN (fl_two z p q) ∧ cP G I a z Gz Iz) := by
  refine mx_start (k := 0) (by decide) rfl rfl (fun h => nomatch h) (Nat.le_of_ble_eq_true rfl) ?_
  show mx_V mX9_length mx_S0 8 1 6 0 [some (.ref a), some (.int p), some (.int q)] [] G I (fun rv Gz Iz => fl_two z p q = 0 ∧ rv = some (.int (oI (an_length z p.toInt.toNat q.toInt.toNat))) ∧ cP G I a z Gz Iz) (fun E Gz Iz => (fl_two z p q) ≠ 0 ∧ E = exN (fl_two z p q) ∧ cP G I a z Gz Iz)
  have hW0 := hW
  obtain ⟨⟨hSP, hsz, hpe⟩, hTx, hSt, hHi, hSl⟩ := hW
  have oSt : oST G (a + 37) := hSP.2.2.2.2.1.2
  obtain ⟨tg9, ⟨f0, oTx⟩, ⟨f1, oPt⟩, ⟨f2, oRd⟩, ⟨f3, -⟩, ⟨f4, oDr⟩, ⟨f5, oHi⟩, ⟨f6, gSl, lSl, ⟨rq0, oS0⟩, ⟨rq1, oS1⟩⟩, ⟨f7, gFi, lFi⟩, ⟨f8, oSe⟩, ⟨f9, oTr⟩, ⟨f10, oBp⟩⟩ := hSP
  have tg0 : mx_tg G (a + 1) = 17 := oTx.1
  have tg1 : mx_tg G (a + 3) = 12 := oPt.1
  have tg2 : mx_tg G (a + 8) = 13 := oRd.1
  have tg3 : mx_tg G (a + 37) = 16 := oSt.1
  have tg4 : mx_tg G (a + 42) = 16 := oDr.1
  have tg5 : mx_tg G (a + 47) = 11 := oHi.1
  have tg6 : mx_tg G (a + 131) = 15 := oSe.1
  have tg7 : mx_tg G (a + 136) = 15 := oTr.1
  have tg8 : mx_tg G (a + 141) = 10 := oBp.1
  obtain ⟨rT, tT, lT⟩ : mx_rf G (a + 1) 0 = a + 2 ∧ mx_tg G (a + 2) = 2 ∧ mx_ln G (a + 2) = 110 := oTx.2
  have oSt0 : oST G (a + 37) := oSt
  obtain ⟨-, ⟨rF, tF, lF⟩, ⟨rK, tK, lK⟩, ⟨rO, tO, lO⟩, ⟨rC, tC, lC⟩⟩ : mx_tg G (a + 37) = 16 ∧ (mx_rf G (a + 37) 2 = a + 38 ∧ mx_tg G (a + 38) = 1 ∧ mx_ln G (a + 38) = 25) ∧ (mx_rf G (a + 37) 3 = a + 39 ∧ mx_tg G (a + 39) = 1 ∧ mx_ln G (a + 39) = 25) ∧ (mx_rf G (a + 37) 4 = a + 40 ∧ mx_tg G (a + 40) = 1 ∧ mx_ln G (a + 40) = 25) ∧ (mx_rf G (a + 37) 5 = a + 41 ∧ mx_tg G (a + 41) = 1 ∧ mx_ln G (a + 41) = 25) := oSt
  have hSv : stN I (a + 37) (zG z) := hSt.1
  obtain ⟨⟨hP8, hN25, hvb⟩, hs0, hs1, hsF, hsK, hsT, hsC⟩ : stN I (a + 37) (zG z) := hSt.1
  have hN24 : gN (zG z) ≤ 24 := hSt.2.1.1
  have hTx0 := hTx
  obtain ⟨hn110, ht1, htc, htb⟩ : txN I (a + 1) (zN z) (zT z) := hTx
  obtain ⟨pt, hpt⟩ : ∃ pt, mx_rf G (a + 37) 6 = pt := ⟨_, rfl⟩
  have he0 : env G I (a + 37) pt (zG z) (vA (zX z)) := by rw [← hpt]; exact hW0.env
  have hpd : pt = a + 3 ∨ a + 146 ≤ pt := by rw [← hpt]; exact hW0.2.2.1.2.2.1
  have hpd5 : pt + 5 ≤ mx_sz G := by rw [← hpt]; exact hW0.2.2.1.2.2.2.1
  have tgp : mx_tg G pt = 12 := he0.2.1.1
  obtain ⟨rch, tch, lch⟩ : mx_rf G pt 0 = pt + 1 ∧ mx_tg G (pt + 1) = 2 ∧ mx_ln G (pt + 1) = 40 := he0.2.1.2.1
  have hpn : ptN I pt (vA (zX z)) := he0.2.2.2.2
  have hwfp : wfP (vA (zX z)) := hpn.1
  have hwfg : wfG (zG z) := he0.2.2.2.1.1
  have hn40 : (zX z).2.1 ≤ 40 := hSt.2.1.2.1
  have hpz : I pt 1 = nI (zX z).2.1 := by
    rw [hpn.2.1, show pSz (vA (zX z)) = min (zX z).2.1 40 from (rdF_sz _ _).1, Nat.min_eq_left hn40]
  have hpl : I pt 2 = nI (pL (vA (zX z))) := hpn.2.2.1
  have hpc : ∀ i, i < (zX z).2.1 → I (pt + 1) i = nI ((zX z).2.2 i) := fun i hi => by
    have h := hpn.2.2.2.2.1 i (by rw [show pSz (vA (zX z)) = min (zX z).2.1 40 from (rdF_sz _ _).1, Nat.min_eq_left hn40]; exact hi)
    rw [h, show pCh (vA (zX z)) = (zX z).2.2 from (rdF_sz _ _).2]
  have hpc8 : ∀ i, i < (zX z).2.1 → (zX z).2.2 i < 256 := hSt.2.1.2.2.2
  refine mx_aload_n (i := 0) (hi := rfl) (hl := rfl) (hd := dX9_length_0) ?_
  refine mx_getR (ci := 9) (k := 3) (r := (a + 37)) dX9_length_1 k_299 (by decide) rfl (by assumption) (by assumption) (by omega) ?_
  refine mx_iload_n (i := 1) (hi := rfl) (hl := rfl) (hd := dX9_length_4) ?_
  refine mx_iload_n (i := 2) (hi := rfl) (hl := rfl) (hd := dX9_length_5) ?_
  refine mx_callVp (ci := 6) (As := [.int p, .int q]) (rest := []) dX9_length_6 (ct_hasPeople G I (a + 37) _ oSt0 hSv p q) km_X6_hasPeople rfl k_533 k_466 k_467 (by assumption) rfl rfl (Nat.le_of_ble_eq_true rfl) (by decide) ?_
  refine mx_iconstN 1 dX9_length_9 (by decide) ?_
  refine mx_callS (As := [.int (mx_b (decide ((0 ≤ p.toInt ∧ p.toInt < (gP (zG z) : Int)) ∧ (0 ≤ q.toInt ∧ q.toInt < (gP (zG z) : Int))))), .int (nI 1)]) (rest := []) (b1 := 1) (b2 := 6) dX9_length_10 (ct_require G I ((0 ≤ p.toInt ∧ p.toInt < (gP (zG z) : Int)) ∧ (0 ≤ q.toInt ∧ q.toInt < (gP (zG z) : Int))) 1 (by decide)) km_X9_require rfl k_338 k_339 rfl rfl (Nat.le_of_ble_eq_true rfl) (by decide) (fun E G9 I9 h9 => mx_xo rfl (by have hf : fl_two z p q = 1 := (by unfold fl_two; rw [if_pos h9.1]); show (fl_two z p q) ≠ 0 ∧ E = exN (fl_two z p q) ∧ cP G I a z G9 I9; rw [hf]; exact ⟨by decide, hW0.id.thw h9.2.2⟩)) (fun r1 G3 I2 h4 => ?_)
  obtain ⟨e0, e1, e2, e3⟩ := h4
  have e2 := e2.symm
  subst e1; subst e2; subst e3
  have k1 : (0 ≤ p.toInt ∧ p.toInt < (gP (zG z) : Int)) ∧ (0 ≤ q.toInt ∧ q.toInt < (gP (zG z) : Int)) := e0.resolve_right (by decide)
  clear e0
  refine mx_aload_n (i := 0) (hi := rfl) (hl := rfl) (hd := dX9_length_13) ?_
  refine mx_getR (ci := 9) (k := 10) (r := (a + 141)) dX9_length_14 k_306 (by decide) rfl (by assumption) (by assumption) (by omega) ?_
  refine mx_aload_n (i := 0) (hi := rfl) (hl := rfl) (hd := dX9_length_17) ?_
  refine mx_getR (ci := 9) (k := 3) (r := (a + 37)) dX9_length_18 k_299 (by decide) rfl (by assumption) (by assumption) (by omega) ?_
  refine mx_iload_n (i := 2) (hi := rfl) (hl := rfl) (hd := dX9_length_21) ?_
  refine mx_callVi (ci := 0) (As := [.ref (a + 37), .int q]) (rest := []) dX9_length_22 ((ct_aimAt G I (a + 141) oBp (a + 37) pt _ _ he0 (qd_o (by decide)) (pd_o hpd (by decide)) q.toInt.toNat (by omega)).eq (by rw [mx_nn k1.2.1])) km_X0_aimAt rfl k_582 k_583 k_584 (by assumption) rfl rfl (Nat.le_of_ble_eq_true rfl) (by decide) (fun r5 I2 h6 => ?_)
  obtain ⟨e9, m1, m3⟩ := h6
  subst e9
  have hP2 := hW0.scr m3 (by omega)
  have hrb := (aFin_B (zG z) (vA (zX z)) q.toInt.toNat).1
  refine mx_aload_n (i := 0) (hi := rfl) (hl := rfl) (hd := dX9_length_25) ?_
  refine mx_getR (ci := 9) (k := 10) (r := (a + 141)) dX9_length_26 k_306 (by decide) rfl (by assumption) (by assumption) (by omega) ?_
  refine mx_iload_n (i := 1) (hi := rfl) (hl := rfl) (hd := dX9_length_29) ?_
  refine mx_callVp (ci := 0) (As := [.int p]) (rest := []) dX9_length_30 ((ct_goingsFrom G I2 (a + 141) oBp _ m1 hrb p.toInt.toNat (by omega)).eq (by rw [mx_nn k1.1.1]) rfl) km_X0_goingsFrom rfl k_607 k_608 k_609 (by assumption) rfl rfl (Nat.le_of_ble_eq_true rfl) (by decide) ?_
  exact mx_iret dX9_length_33 rfl rfl (⟨by unfold fl_two; rw [if_neg (fun q => q k1)], rfl, hP2⟩)
