/-! THE METHODS OF StepPaths: a script's command on the draft -/
/-- the class's world while the draft holds v -/
def dW (G : mx_G) (I : mx_I) (a : Nat) (z : Zs) (v : Gr) : Prop := cW G I a z ∧ stN I (a + 42) v ∧ gN v ≤ 24 ∧ mx_rf G (a + 42) 6 = mx_rf G (a + 37) 6
theorem dW.k {G : mx_G} {I I1 : mx_I} {a : Nat} {z : Zs} {v w : Gr} (h : dW G I a z v) (h1 : stN I1 (a + 42) w) (h2 : gN w ≤ 24) (h3 : dfr a I I1) : dW G I1 a z w := ⟨(h.1.d h3).1, h1, h2, h.2.2.2⟩
/-- what a command that changes the draft leaves -/
def cgQ (I : mx_I) (a : Nat) (v : Gr) (o : Option Gr) (rv : Option Value) (I1 : mx_I) : Prop := rv = some (.int (mx_b (decide (o.isSome = true)))) ∧ stN I1 (a + 42) (o.getD v) ∧ gN (o.getD v) ≤ 24 ∧ dfr a I I1
theorem cq_n {I : mx_I} {a : Nat} {v : Gr} {o : Option Gr} (e : o = none) (h : stN I (a + 42) v) (h24 : gN v ≤ 24) : cgQ I a v o (some (.int (nI 0))) I := by
  subst e
  exact ⟨rfl, h, h24, dfr.rf a I⟩
theorem cq_s {I I1 : mx_I} {a : Nat} {v w : Gr} {o : Option Gr} (e : o = some w) (h : stN I1 (a + 42) w) (h24 : gN w ≤ 24) (hf : dfr a I I1) : cgQ I a v o (some (.int (nI 1))) I1 := by
  subst e
  exact ⟨rfl, h, h24, hf⟩
theorem cq_1 {I I1 : mx_I} {a : Nat} {v : Gr} {o o' : Option Gr} {rv : Option Value} (h : cgQ I a v o rv I1) (e : o' = o) (hs : o.isSome = true) : cgQ I a v o' (some (.int (nI 1))) I1 := by
  subst e
  exact ⟨congrArg (fun z => some (Value.int z)) (mx_bT hs), h.2⟩
theorem cq_0 {I I1 : mx_I} {a : Nat} {v : Gr} {o o' : Option Gr} {rv : Option Value} (h : cgQ I a v o rv I1) (e : o' = o) (hs : ¬ o.isSome = true) : cgQ I a v o' (some (.int (nI 0))) I1 := by
  subst e
  exact ⟨congrArg (fun z => some (Value.int z)) (mx_bF hs), h.2⟩
theorem cq_e {I I1 : mx_I} {a : Nat} {v : Gr} {o o' : Option Gr} {rv : Option Value} (h : cgQ I a v o rv I1) (e : o' = o) : cgQ I a v o' rv I1 := e ▸ h
def rmO (v : Gr) (s : Nat) : Option Gr := if s < gN v then some (gDrop v s) else none
def scO (v : Gr) (s d : Nat) : Option Gr := if s < gN v ∧ ¬ d = 0 then some (gCost v s d) else none
def trO (v : Gr) (s : Nat) : Option Gr := if wtN v s = 0 then some (gRev v s) else none
def exO (v : Gr) (k l : Nat) : Option Gr := if k < 4 ∧ l < 4 then some (gSwp v k l) else none
theorem if_and1 {α : Type} {c p : Prop} [Decidable c] [Decidable p] (hc : c) (x y : α) : (if c ∧ p then x else y) = if p then x else y := by
  by_cases h : p
  · rw [if_pos ⟨hc, h⟩, if_pos h]
  · rw [if_neg (fun q => h q.2), if_neg h]
theorem cg2_y {v : Gr} {a b c d : Nat} (h : c + d = 0) : cgG v 2 a b c d = rmO v (10 * a + b) := by rw [cgG_2, if_and1 h]; rfl
theorem cg4_y {v : Gr} {a b c d : Nat} (h : c + d = 0) : cgG v 4 a b c d = trO v (10 * a + b) := by rw [cgG_4, if_and1 h]; rfl
theorem cg5_y {v : Gr} {a b c d : Nat} (h : c + d = 0) : cgG v 5 a b c d = exO v a b := by rw [cgG_5, if_and1 h]; rfl
theorem cg3_y {v : Gr} {a b c d : Nat} (h : c = 0) : cgG v 3 a b c d = scO v (10 * a + b) d := by
  rw [cgG_3]
  unfold scO
  by_cases h1 : 10 * a + b < gN v
  · by_cases h2 : d = 0
    · rw [if_neg (fun q => q.1.2 h2), if_neg (fun q => q.2 h2)]
    · rw [if_pos ⟨⟨h, h2⟩, h1⟩, if_pos ⟨h1, h2⟩]
  · rw [if_neg (fun q => h1 q.2), if_neg (fun q => h1 q.1)]
theorem cg2_n {v : Gr} {a b c d : Nat} (h : ¬ c + d = 0) : cgG v 2 a b c d = none := by rw [cgG_2, if_neg (fun q => h q.1)]
theorem cg4_n {v : Gr} {a b c d : Nat} (h : ¬ c + d = 0) : cgG v 4 a b c d = none := by rw [cgG_4, if_neg (fun q => h q.1)]
theorem cg5_n {v : Gr} {a b c d : Nat} (h : ¬ c + d = 0) : cgG v 5 a b c d = none := by rw [cgG_5, if_neg (fun q => h q.1)]
theorem cg3_n {v : Gr} {a b c d : Nat} (h : ¬ c = 0) : cgG v 3 a b c d = none := by rw [cgG_3, if_neg (fun q => h q.1.1)]
theorem wt_of {v : Gr} {s : Nat} (h : (if ¬ (0 ≤ (nI s).toInt ∧ (nI s).toInt < (gN v : Int)) then 1 else if gIx v (gT v (nI s).toInt.toNat) (gK v (nI s).toInt.toNat) (gF v (nI s).toInt.toNat) = none then 0 else 3) = 0) (hs : s < 2 ^ 31) : wtN v s = 0 ∧ s < gN v := by
  rw [nI_toInt hs] at h
  have hq : ((s : Nat) : Int).toNat = s := rfl
  rw [hq] at h
  split at h
  · cases h
  · next c =>
    have hsn : s < gN v := by omega
    split at h
    · next c2 => exact ⟨by unfold wtN; rw [if_pos hsn, if_pos c2], hsn⟩
    · cases h
theorem wt_nf {v : Gr} {s : Nat} (h : ¬ (if ¬ (0 ≤ (nI s).toInt ∧ (nI s).toInt < (gN v : Int)) then 1 else if gIx v (gT v (nI s).toInt.toNat) (gK v (nI s).toInt.toNat) (gF v (nI s).toInt.toNat) = none then 0 else 3) = 0) (hs : s < 2 ^ 31) : ¬ wtN v s = 0 := fun q => h (by
  unfold wtN at q
  split at q
  · next c =>
    split at q
    · next c2 =>
      rw [nI_toInt hs]
      rw [if_neg (fun q9 => q9 ⟨by omega, by omega⟩)]
      exact if_pos c2
    · cases q
  · cases q)
theorem sc_of {v : Gr} {s d : Nat} (h : (if ¬ (0 ≤ (nI s).toInt ∧ (nI s).toInt < (gN v : Int)) then 1 else if 1 ≤ (nI d).toInt ∧ (nI d).toInt ≤ 9 then 0 else 2) = 0) (hs : s < 2 ^ 31) (hd : d < 2 ^ 31) : s < gN v ∧ 1 ≤ d ∧ d ≤ 9 := by
  rw [nI_toInt hs, nI_toInt hd] at h
  split at h
  · cases h
  · next c =>
    split at h
    · next c2 => omega
    · cases h
theorem sc_nf {v : Gr} {s d : Nat} (h : ¬ (if ¬ (0 ≤ (nI s).toInt ∧ (nI s).toInt < (gN v : Int)) then 1 else if 1 ≤ (nI d).toInt ∧ (nI d).toInt ≤ 9 then 0 else 2) = 0) (hs : s < 2 ^ 31) (hd : d ≤ 9) : scO v s d = none := by
  unfold scO
  refine if_neg (fun q => h ?_)
  rw [nI_toInt hs, nI_toInt (show d < 2 ^ 31 by omega), if_neg (fun q9 => q9 ⟨by omega, by omega⟩), if_pos ⟨by omega, by omega⟩]
theorem ite3_lt {c d : Prop} [Decidable c] [Decidable d] {x y z : Nat} (hx : x < 2 ^ 31) (hy : y < 2 ^ 31) (hz : z < 2 ^ 31) : (if c then x else if d then y else z) < 2 ^ 31 := by
  split
  · exact hx
  · split
    · exact hy
    · exact hz

set_option maxHeartbeats 400000 in
set_option maxRecDepth 100000 in
theorem ct_adds (G : mx_G) (I : mx_I) (a : Nat) (z : Zs) (v : Gr) (hD : dW G I a z v) (ca cb cc cd : Nat) (hca : ca ≤ 9) (hcb : cb ≤ 9) (hcc : cc ≤ 9) (hcd : cd ≤ 9) : mx_CTi yX9_adds mX9_adds 4 [.ref a, .int (nI ca), .int (nI cb), .int (nI cc), .int (nI cd)] G I (fun rv I1 => cgQ I a v (cgG v 1 ca cb cc cd) rv I1) := by
  refine mx_start (k := 0) (by decide) rfl rfl (fun h => nomatch h) (Nat.le_of_ble_eq_true rfl) ?_
  show mx_V mX9_adds mx_S0 4 0 0 0 [some (.ref a), some (.int (nI ca)), some (.int (nI cb)), some (.int (nI cc)), some (.int (nI cd))] [] G I (fun rv Gz Iz => (fun rv I1 => cgQ I a v (cgG v 1 ca cb cc cd) rv I1) rv Iz ∧ Gz = G) (fun _ _ _ => False)
  obtain ⟨hW, hDv, hD24, hrd⟩ := id hD
  have hW0 := hW
  obtain ⟨⟨hSP, hsz, hpe⟩, hTx, hSt, hHi, hSl⟩ := hW
  have oSt : oST G (a + 37) := hSP.2.2.2.2.1.2
  obtain ⟨tg9, ⟨f0, oTx⟩, ⟨f1, oPt⟩, ⟨f2, oRd⟩, ⟨f3, -⟩, ⟨f4, oDr⟩, ⟨f5, oHi⟩, ⟨f6, gSl, lSl, ⟨rq0, oS0⟩, ⟨rq1, oS1⟩⟩, ⟨f7, gFi, lFi⟩, ⟨f8, oSe⟩, ⟨f9, oTr⟩, ⟨f10, oBp⟩⟩ := hSP
  have tg0 : mx_tg G (a + 1) = 17 := oTx.1
  have tg1 : mx_tg G (a + 3) = 12 := oPt.1
  have tg2 : mx_tg G (a + 8) = 13 := oRd.1
  have tg3 : mx_tg G (a + 37) = 16 := oSt.1
  have tg4 : mx_tg G (a + 42) = 16 := oDr.1
  have tg5 : mx_tg G (a + 47) = 11 := oHi.1
  have tg6 : mx_tg G (a + 131) = 15 := oSe.1
  have tg7 : mx_tg G (a + 136) = 15 := oTr.1
  have tg8 : mx_tg G (a + 141) = 10 := oBp.1
  obtain ⟨rT, tT, lT⟩ : mx_rf G (a + 1) 0 = a + 2 ∧ mx_tg G (a + 2) = 2 ∧ mx_ln G (a + 2) = 110 := oTx.2
  have oSt0 : oST G (a + 37) := oSt
  obtain ⟨-, ⟨rF, tF, lF⟩, ⟨rK, tK, lK⟩, ⟨rO, tO, lO⟩, ⟨rC, tC, lC⟩⟩ : mx_tg G (a + 37) = 16 ∧ (mx_rf G (a + 37) 2 = a + 38 ∧ mx_tg G (a + 38) = 1 ∧ mx_ln G (a + 38) = 25) ∧ (mx_rf G (a + 37) 3 = a + 39 ∧ mx_tg G (a + 39) = 1 ∧ mx_ln G (a + 39) = 25) ∧ (mx_rf G (a + 37) 4 = a + 40 ∧ mx_tg G (a + 40) = 1 ∧ mx_ln G (a + 40) = 25) ∧ (mx_rf G (a + 37) 5 = a + 41 ∧ mx_tg G (a + 41) = 1 ∧ mx_ln G (a + 41) = 25) := oSt
  have hSv : stN I (a + 37) (zG z) := hSt.1
  obtain ⟨⟨hP8, hN25, hvb⟩, hs0, hs1, hsF, hsK, hsT, hsC⟩ : stN I (a + 37) (zG z) := hSt.1
  have hN24 : gN (zG z) ≤ 24 := hSt.2.1.1
  have hTx0 := hTx
  obtain ⟨hn110, ht1, htc, htb⟩ : txN I (a + 1) (zN z) (zT z) := hTx
  have hDw : wfG v := hDv.1
  have hDP : gP v ≤ 8 := hDw.1
  obtain ⟨-, dr0, dr1, drF, drK, drT, drC⟩ := id hDv
  have tg42 : mx_tg G (a + 42) = 16 := oDr.1
  have rDC : mx_rf G (a + 42) 5 = a + 46 := oDr.2.2.2.2.1
  have tDC : mx_tg G (a + 46) = 1 := oDr.2.2.2.2.2.1
  have lDC : mx_ln G (a + 46) = 25 := oDr.2.2.2.2.2.2
  have tca : (nI ca).toInt = (ca : Int) := nI_toInt (by omega)
  have tcb : (nI cb).toInt = (cb : Int) := nI_toInt (by omega)
  have tcc : (nI cc).toInt = (cc : Int) := nI_toInt (by omega)
  have tcd : (nI cd).toInt = (cd : Int) := nI_toInt (by omega)
  refine mx_aload_n (i := 0) (hi := rfl) (hl := rfl) (hd := dX9_adds_0) ?_
  refine mx_getR (ci := 9) (k := 4) (r := (a + 42)) dX9_adds_1 k_329 (by decide) rfl (by assumption) (by assumption) (by omega) ?_
  refine mx_iload_n (i := 1) (hi := rfl) (hl := rfl) (hd := dX9_adds_4) ?_
  refine mx_iload_n (i := 2) (hi := rfl) (hl := rfl) (hd := dX9_adds_5) ?_
  refine mx_iload_n (i := 3) (hi := rfl) (hl := rfl) (hd := dX9_adds_6) ?_
  refine mx_iload (i := 4) (hl := rfl) (hd := dX9_adds_7) ?_
  refine mx_callVp (ci := 6) (As := [.int (nI ca), .int (nI cb), .int (nI cc), .int (nI cd)]) (rest := []) dX9_adds_9 (ct_faultOfAdding G I (a + 42) v oDr hDv (nI ca) (nI cb) (nI cc) (nI cd)) km_X6_faultOfAdding rfl k_675 k_676 k_677 (by assumption) rfl rfl (Nat.le_of_ble_eq_true rfl) (by decide) ?_
  refine mx_ifN_eq 17 dX9_adds_12 (by decide) (Nat.lt_of_le_of_lt (gWhy_le _ _ _ _ _) (by decide)) (fun c12 => ?_) (fun c12 => ?_)
  · skip
    obtain ⟨k1, k2, k3, k4, k5, k6⟩ := gWhy_0 c12
    refine mx_aload_n (i := 0) (hi := rfl) (hl := rfl) (hd := dX9_adds_17) ?_
    refine mx_getR (ci := 9) (k := 4) (r := (a + 42)) dX9_adds_18 k_329 (by decide) rfl (by assumption) (by assumption) (by omega) ?_
    refine mx_iload_n (i := 1) (hi := rfl) (hl := rfl) (hd := dX9_adds_21) ?_
    refine mx_iload_n (i := 2) (hi := rfl) (hl := rfl) (hd := dX9_adds_22) ?_
    refine mx_iload_n (i := 3) (hi := rfl) (hl := rfl) (hd := dX9_adds_23) ?_
    refine mx_iload (i := 4) (hl := rfl) (hd := dX9_adds_24) ?_
    refine mx_callVi (ci := 6) (As := [.int (nI ca), .int (nI cb), .int (nI cc), .int (nI cd)]) (rest := []) dX9_adds_26 (ct_put G I (a + 42) v oDr hDv ca cb cc cd (by omega) (by omega) (by omega) (by omega) hD24) km_X6_put rfl k_683 k_684 k_685 (by assumption) rfl rfl (Nat.le_of_ble_eq_true rfl) (by decide) (fun r1 I2 h2 => ?_)
    obtain ⟨e9, n1, n2⟩ := h2
    subst e9
    refine mx_pop (hva := rfl) (hd := dX9_adds_29) ?_
    refine mx_iconstN 1 dX9_adds_30 (by decide) ?_
    exact mx_iret dX9_adds_31 rfl (by decide) (⟨cq_s (by rw [cgG_1, if_pos c12]) n1 (by show gN v + 1 ≤ 24; omega) (dfr.of n2 (by omega)), rfl⟩)
  · skip
    refine mx_iconstN 0 dX9_adds_15 (by decide) ?_
    exact mx_iret dX9_adds_16 rfl (by decide) (⟨cq_n (by rw [cgG_1, if_neg c12]) hDv hD24, rfl⟩)

set_option maxHeartbeats 400000 in
set_option maxRecDepth 100000 in
theorem ct_removes (G : mx_G) (I : mx_I) (a : Nat) (z : Zs) (v : Gr) (hD : dW G I a z v) (s : Nat) (hs : s < 2 ^ 31) : mx_CTi yX9_removes mX9_removes 4 [.ref a, .int (nI s)] G I (fun rv I1 => cgQ I a v (rmO v s) rv I1) := by
  refine mx_start (k := 0) (by decide) rfl rfl (fun h => nomatch h) (Nat.le_of_ble_eq_true rfl) ?_
  show mx_V mX9_removes mx_S0 4 0 0 0 [some (.ref a), some (.int (nI s))] [] G I (fun rv Gz Iz => (fun rv I1 => cgQ I a v (rmO v s) rv I1) rv Iz ∧ Gz = G) (fun _ _ _ => False)
  obtain ⟨hW, hDv, hD24, hrd⟩ := id hD
  have hW0 := hW
  obtain ⟨⟨hSP, hsz, hpe⟩, hTx, hSt, hHi, hSl⟩ := hW
  have oSt : oST G (a + 37) := hSP.2.2.2.2.1.2
  obtain ⟨tg9, ⟨f0, oTx⟩, ⟨f1, oPt⟩, ⟨f2, oRd⟩, ⟨f3, -⟩, ⟨f4, oDr⟩, ⟨f5, oHi⟩, ⟨f6, gSl, lSl, ⟨rq0, oS0⟩, ⟨rq1, oS1⟩⟩, ⟨f7, gFi, lFi⟩, ⟨f8, oSe⟩, ⟨f9, oTr⟩, ⟨f10, oBp⟩⟩ := hSP
  have tg0 : mx_tg G (a + 1) = 17 := oTx.1
  have tg1 : mx_tg G (a + 3) = 12 := oPt.1
  have tg2 : mx_tg G (a + 8) = 13 := oRd.1
  have tg3 : mx_tg G (a + 37) = 16 := oSt.1
  have tg4 : mx_tg G (a + 42) = 16 := oDr.1
  have tg5 : mx_tg G (a + 47) = 11 := oHi.1
  have tg6 : mx_tg G (a + 131) = 15 := oSe.1
  have tg7 : mx_tg G (a + 136) = 15 := oTr.1
  have tg8 : mx_tg G (a + 141) = 10 := oBp.1
  obtain ⟨rT, tT, lT⟩ : mx_rf G (a + 1) 0 = a + 2 ∧ mx_tg G (a + 2) = 2 ∧ mx_ln G (a + 2) = 110 := oTx.2
  have oSt0 : oST G (a + 37) := oSt
  obtain ⟨-, ⟨rF, tF, lF⟩, ⟨rK, tK, lK⟩, ⟨rO, tO, lO⟩, ⟨rC, tC, lC⟩⟩ : mx_tg G (a + 37) = 16 ∧ (mx_rf G (a + 37) 2 = a + 38 ∧ mx_tg G (a + 38) = 1 ∧ mx_ln G (a + 38) = 25) ∧ (mx_rf G (a + 37) 3 = a + 39 ∧ mx_tg G (a + 39) = 1 ∧ mx_ln G (a + 39) = 25) ∧ (mx_rf G (a + 37) 4 = a + 40 ∧ mx_tg G (a + 40) = 1 ∧ mx_ln G (a + 40) = 25) ∧ (mx_rf G (a + 37) 5 = a + 41 ∧ mx_tg G (a + 41) = 1 ∧ mx_ln G (a + 41) = 25) := oSt
  have hSv : stN I (a + 37) (zG z) := hSt.1
  obtain ⟨⟨hP8, hN25, hvb⟩, hs0, hs1, hsF, hsK, hsT, hsC⟩ : stN I (a + 37) (zG z) := hSt.1
  have hN24 : gN (zG z) ≤ 24 := hSt.2.1.1
  have hTx0 := hTx
  obtain ⟨hn110, ht1, htc, htb⟩ : txN I (a + 1) (zN z) (zT z) := hTx
  have hDw : wfG v := hDv.1
  have hDP : gP v ≤ 8 := hDw.1
  obtain ⟨-, dr0, dr1, drF, drK, drT, drC⟩ := id hDv
  have tg42 : mx_tg G (a + 42) = 16 := oDr.1
  have rDC : mx_rf G (a + 42) 5 = a + 46 := oDr.2.2.2.2.1
  have tDC : mx_tg G (a + 46) = 1 := oDr.2.2.2.2.2.1
  have lDC : mx_ln G (a + 46) = 25 := oDr.2.2.2.2.2.2
  refine mx_aload_n (i := 0) (hi := rfl) (hl := rfl) (hd := dX9_removes_0) ?_
  refine mx_getR (ci := 9) (k := 4) (r := (a + 42)) dX9_removes_1 k_329 (by decide) rfl (by assumption) (by assumption) (by omega) ?_
  refine mx_iload_n (i := 1) (hi := rfl) (hl := rfl) (hd := dX9_removes_4) ?_
  refine mx_callVp (ci := 6) (As := [.int (nI s)]) (rest := []) dX9_removes_5 (ct_hasStepN G I (a + 42) v oDr hDv s hs) km_X6_hasStep rfl k_604 k_605 k_606 (by assumption) rfl rfl (Nat.le_of_ble_eq_true rfl) (by decide) ?_
  refine mx_ifB_ne 13 dX9_removes_8 (by decide) (fun c8 => ?_) (fun c8 => ?_)
  · skip
    refine mx_aload_n (i := 0) (hi := rfl) (hl := rfl) (hd := dX9_removes_13) ?_
    refine mx_getR (ci := 9) (k := 4) (r := (a + 42)) dX9_removes_14 k_329 (by decide) rfl (by assumption) (by assumption) (by omega) ?_
    refine mx_iload_n (i := 1) (hi := rfl) (hl := rfl) (hd := dX9_removes_17) ?_
    refine mx_callVi (ci := 6) (As := [.int (nI s)]) (rest := []) dX9_removes_18 (ct_drop G I (a + 42) v oDr hDv s c8) km_X6_drop rfl k_694 k_695 k_696 (by assumption) rfl rfl (Nat.le_of_ble_eq_true rfl) (by decide) (fun r1 I2 h2 => ?_)
    obtain ⟨e9, n1, n2⟩ := h2
    subst e9
    refine mx_iconstN 1 dX9_removes_21 (by decide) ?_
    exact mx_iret dX9_removes_22 rfl (by decide) (⟨cq_s (if_pos c8) n1 (by show gN v - 1 ≤ 24; omega) (dfr.of n2 (by omega)), rfl⟩)
  · skip
    refine mx_iconstN 0 dX9_removes_11 (by decide) ?_
    exact mx_iret dX9_removes_12 rfl (by decide) (⟨cq_n (if_neg c8) hDv hD24, rfl⟩)

set_option maxHeartbeats 400000 in
set_option maxRecDepth 100000 in
theorem ct_setsCost (G : mx_G) (I : mx_I) (a : Nat) (z : Zs) (v : Gr) (hD : dW G I a z v) (s d : Nat) (hs : s < 2 ^ 31) (hd : d ≤ 9) : mx_CTi yX9_setsCost mX9_setsCost 4 [.ref a, .int (nI s), .int (nI d)] G I (fun rv I1 => cgQ I a v (scO v s d) rv I1) := by
  refine mx_start (k := 0) (by decide) rfl rfl (fun h => nomatch h) (Nat.le_of_ble_eq_true rfl) ?_
  show mx_V mX9_setsCost mx_S0 4 0 0 0 [some (.ref a), some (.int (nI s)), some (.int (nI d))] [] G I (fun rv Gz Iz => (fun rv I1 => cgQ I a v (scO v s d) rv I1) rv Iz ∧ Gz = G) (fun _ _ _ => False)
  obtain ⟨hW, hDv, hD24, hrd⟩ := id hD
  have hW0 := hW
  obtain ⟨⟨hSP, hsz, hpe⟩, hTx, hSt, hHi, hSl⟩ := hW
  have oSt : oST G (a + 37) := hSP.2.2.2.2.1.2
  obtain ⟨tg9, ⟨f0, oTx⟩, ⟨f1, oPt⟩, ⟨f2, oRd⟩, ⟨f3, -⟩, ⟨f4, oDr⟩, ⟨f5, oHi⟩, ⟨f6, gSl, lSl, ⟨rq0, oS0⟩, ⟨rq1, oS1⟩⟩, ⟨f7, gFi, lFi⟩, ⟨f8, oSe⟩, ⟨f9, oTr⟩, ⟨f10, oBp⟩⟩ := hSP
  have tg0 : mx_tg G (a + 1) = 17 := oTx.1
  have tg1 : mx_tg G (a + 3) = 12 := oPt.1
  have tg2 : mx_tg G (a + 8) = 13 := oRd.1
  have tg3 : mx_tg G (a + 37) = 16 := oSt.1
  have tg4 : mx_tg G (a + 42) = 16 := oDr.1
  have tg5 : mx_tg G (a + 47) = 11 := oHi.1
  have tg6 : mx_tg G (a + 131) = 15 := oSe.1
  have tg7 : mx_tg G (a + 136) = 15 := oTr.1
  have tg8 : mx_tg G (a + 141) = 10 := oBp.1
  obtain ⟨rT, tT, lT⟩ : mx_rf G (a + 1) 0 = a + 2 ∧ mx_tg G (a + 2) = 2 ∧ mx_ln G (a + 2) = 110 := oTx.2
  have oSt0 : oST G (a + 37) := oSt
  obtain ⟨-, ⟨rF, tF, lF⟩, ⟨rK, tK, lK⟩, ⟨rO, tO, lO⟩, ⟨rC, tC, lC⟩⟩ : mx_tg G (a + 37) = 16 ∧ (mx_rf G (a + 37) 2 = a + 38 ∧ mx_tg G (a + 38) = 1 ∧ mx_ln G (a + 38) = 25) ∧ (mx_rf G (a + 37) 3 = a + 39 ∧ mx_tg G (a + 39) = 1 ∧ mx_ln G (a + 39) = 25) ∧ (mx_rf G (a + 37) 4 = a + 40 ∧ mx_tg G (a + 40) = 1 ∧ mx_ln G (a + 40) = 25) ∧ (mx_rf G (a + 37) 5 = a + 41 ∧ mx_tg G (a + 41) = 1 ∧ mx_ln G (a + 41) = 25) := oSt
  have hSv : stN I (a + 37) (zG z) := hSt.1
  obtain ⟨⟨hP8, hN25, hvb⟩, hs0, hs1, hsF, hsK, hsT, hsC⟩ : stN I (a + 37) (zG z) := hSt.1
  have hN24 : gN (zG z) ≤ 24 := hSt.2.1.1
  have hTx0 := hTx
  obtain ⟨hn110, ht1, htc, htb⟩ : txN I (a + 1) (zN z) (zT z) := hTx
  have hDw : wfG v := hDv.1
  have hDP : gP v ≤ 8 := hDw.1
  obtain ⟨-, dr0, dr1, drF, drK, drT, drC⟩ := id hDv
  have tg42 : mx_tg G (a + 42) = 16 := oDr.1
  have rDC : mx_rf G (a + 42) 5 = a + 46 := oDr.2.2.2.2.1
  have tDC : mx_tg G (a + 46) = 1 := oDr.2.2.2.2.2.1
  have lDC : mx_ln G (a + 46) = 25 := oDr.2.2.2.2.2.2
  refine mx_aload_n (i := 0) (hi := rfl) (hl := rfl) (hd := dX9_setsCost_0) ?_
  refine mx_getR (ci := 9) (k := 4) (r := (a + 42)) dX9_setsCost_1 k_329 (by decide) rfl (by assumption) (by assumption) (by omega) ?_
  refine mx_iload_n (i := 1) (hi := rfl) (hl := rfl) (hd := dX9_setsCost_4) ?_
  refine mx_iload_n (i := 2) (hi := rfl) (hl := rfl) (hd := dX9_setsCost_5) ?_
  refine mx_callVp (ci := 6) (As := [.int (nI s), .int (nI d)]) (rest := []) dX9_setsCost_6 (ct_faultOfCosting G I (a + 42) v oDr hDv (nI s) (nI d)) km_X6_faultOfCosting rfl k_705 k_706 k_707 (by assumption) rfl rfl (Nat.le_of_ble_eq_true rfl) (by decide) ?_
  refine mx_ifN_eq 14 dX9_setsCost_9 (by decide) (ite3_lt (by decide) (by decide) (by decide)) (fun c9 => ?_) (fun c9 => ?_)
  · skip
    obtain ⟨k1, k2, k3⟩ := sc_of c9 hs (by omega)
    refine mx_aload_n (i := 0) (hi := rfl) (hl := rfl) (hd := dX9_setsCost_14) ?_
    refine mx_getR (ci := 9) (k := 4) (r := (a + 42)) dX9_setsCost_15 k_329 (by decide) rfl (by assumption) (by assumption) (by omega) ?_
    refine mx_getR (ci := 6) (k := 5) (r := (a + 46)) dX9_setsCost_18 k_217 (by decide) rfl (by assumption) (by assumption) (by omega) ?_
    refine mx_iload_n (i := 1) (hi := rfl) (hl := rfl) (hd := dX9_setsCost_21) ?_
    refine mx_iload_n (i := 2) (hi := rfl) (hl := rfl) (hd := dX9_setsCost_22) ?_
    refine mx_iast s dX9_setsCost_23 (by assumption) ⟨rfl, by rw [lDC]; omega, by rw [lDC]; decide⟩ ?_
    refine mx_iconstN 1 dX9_setsCost_24 (by decide) ?_
    refine mx_iret dX9_setsCost_25 rfl (by decide) (⟨cq_s (w := gCost v s d) (if_pos ⟨k1, by omega⟩) ⟨wfG.cost hDw _ (by omega), ?_, ?_, ?_, ?_, ?_, ?_⟩ hD24 (dfr.of ((mx_fr.rf I (a + 46) (a + 47)).u (by omega)) (by omega)), rfl⟩)
    · rw [mx_u_at, if_neg (by omega)]; exact dr0
    · rw [mx_u_at, if_neg (by omega)]; exact dr1
    · exact drF.o (by omega)
    · exact drK.o (by omega)
    · exact drT.o (by omega)
    · exact drC.u
  · skip
    refine mx_iconstN 0 dX9_setsCost_12 (by decide) ?_
    exact mx_iret dX9_setsCost_13 rfl (by decide) (⟨cq_n (sc_nf c9 hs hd) hDv hD24, rfl⟩)

set_option maxHeartbeats 400000 in
set_option maxRecDepth 100000 in
theorem ct_turns (G : mx_G) (I : mx_I) (a : Nat) (z : Zs) (v : Gr) (hD : dW G I a z v) (s : Nat) (hs : s < 2 ^ 31) : mx_CTi yX9_turns mX9_turns 4 [.ref a, .int (nI s)] G I (fun rv I1 => cgQ I a v (trO v s) rv I1) := by
  refine mx_start (k := 0) (by decide) rfl rfl (fun h => nomatch h) (Nat.le_of_ble_eq_true rfl) ?_
  show mx_V mX9_turns mx_S0 4 0 0 0 [some (.ref a), some (.int (nI s))] [] G I (fun rv Gz Iz => (fun rv I1 => cgQ I a v (trO v s) rv I1) rv Iz ∧ Gz = G) (fun _ _ _ => False)
  obtain ⟨hW, hDv, hD24, hrd⟩ := id hD
  have hW0 := hW
  obtain ⟨⟨hSP, hsz, hpe⟩, hTx, hSt, hHi, hSl⟩ := hW
  have oSt : oST G (a + 37) := hSP.2.2.2.2.1.2
  obtain ⟨tg9, ⟨f0, oTx⟩, ⟨f1, oPt⟩, ⟨f2, oRd⟩, ⟨f3, -⟩, ⟨f4, oDr⟩, ⟨f5, oHi⟩, ⟨f6, gSl, lSl, ⟨rq0, oS0⟩, ⟨rq1, oS1⟩⟩, ⟨f7, gFi, lFi⟩, ⟨f8, oSe⟩, ⟨f9, oTr⟩, ⟨f10, oBp⟩⟩ := hSP
  have tg0 : mx_tg G (a + 1) = 17 := oTx.1
  have tg1 : mx_tg G (a + 3) = 12 := oPt.1
  have tg2 : mx_tg G (a + 8) = 13 := oRd.1
  have tg3 : mx_tg G (a + 37) = 16 := oSt.1
  have tg4 : mx_tg G (a + 42) = 16 := oDr.1
  have tg5 : mx_tg G (a + 47) = 11 := oHi.1
  have tg6 : mx_tg G (a + 131) = 15 := oSe.1
  have tg7 : mx_tg G (a + 136) = 15 := oTr.1
  have tg8 : mx_tg G (a + 141) = 10 := oBp.1
  obtain ⟨rT, tT, lT⟩ : mx_rf G (a + 1) 0 = a + 2 ∧ mx_tg G (a + 2) = 2 ∧ mx_ln G (a + 2) = 110 := oTx.2
  have oSt0 : oST G (a + 37) := oSt
  obtain ⟨-, ⟨rF, tF, lF⟩, ⟨rK, tK, lK⟩, ⟨rO, tO, lO⟩, ⟨rC, tC, lC⟩⟩ : mx_tg G (a + 37) = 16 ∧ (mx_rf G (a + 37) 2 = a + 38 ∧ mx_tg G (a + 38) = 1 ∧ mx_ln G (a + 38) = 25) ∧ (mx_rf G (a + 37) 3 = a + 39 ∧ mx_tg G (a + 39) = 1 ∧ mx_ln G (a + 39) = 25) ∧ (mx_rf G (a + 37) 4 = a + 40 ∧ mx_tg G (a + 40) = 1 ∧ mx_ln G (a + 40) = 25) ∧ (mx_rf G (a + 37) 5 = a + 41 ∧ mx_tg G (a + 41) = 1 ∧ mx_ln G (a + 41) = 25) := oSt
  have hSv : stN I (a + 37) (zG z) := hSt.1
  obtain ⟨⟨hP8, hN25, hvb⟩, hs0, hs1, hsF, hsK, hsT, hsC⟩ : stN I (a + 37) (zG z) := hSt.1
  have hN24 : gN (zG z) ≤ 24 := hSt.2.1.1
  have hTx0 := hTx
  obtain ⟨hn110, ht1, htc, htb⟩ : txN I (a + 1) (zN z) (zT z) := hTx
  have hDw : wfG v := hDv.1
  have hDP : gP v ≤ 8 := hDw.1
  obtain ⟨-, dr0, dr1, drF, drK, drT, drC⟩ := id hDv
  have tg42 : mx_tg G (a + 42) = 16 := oDr.1
  have rDC : mx_rf G (a + 42) 5 = a + 46 := oDr.2.2.2.2.1
  have tDC : mx_tg G (a + 46) = 1 := oDr.2.2.2.2.2.1
  have lDC : mx_ln G (a + 46) = 25 := oDr.2.2.2.2.2.2
  refine mx_aload_n (i := 0) (hi := rfl) (hl := rfl) (hd := dX9_turns_0) ?_
  refine mx_getR (ci := 9) (k := 4) (r := (a + 42)) dX9_turns_1 k_329 (by decide) rfl (by assumption) (by assumption) (by omega) ?_
  refine mx_iload_n (i := 1) (hi := rfl) (hl := rfl) (hd := dX9_turns_4) ?_
  refine mx_callVp (ci := 6) (As := [.int (nI s)]) (rest := []) dX9_turns_5 (ct_faultOfReversing G I (a + 42) v oDr hDv (nI s)) km_X6_faultOfReversing rfl k_717 k_718 k_719 (by assumption) rfl rfl (Nat.le_of_ble_eq_true rfl) (by decide) ?_
  refine mx_ifN_eq 13 dX9_turns_8 (by decide) (ite3_lt (by decide) (by decide) (by decide)) (fun c8 => ?_) (fun c8 => ?_)
  · skip
    obtain ⟨k1, k2⟩ := wt_of c8 hs
    refine mx_aload_n (i := 0) (hi := rfl) (hl := rfl) (hd := dX9_turns_13) ?_
    refine mx_getR (ci := 9) (k := 4) (r := (a + 42)) dX9_turns_14 k_329 (by decide) rfl (by assumption) (by assumption) (by omega) ?_
    refine mx_iload_n (i := 1) (hi := rfl) (hl := rfl) (hd := dX9_turns_17) ?_
    refine mx_callVi (ci := 6) (As := [.int (nI s)]) (rest := []) dX9_turns_18 (ct_reverse G I (a + 42) v oDr hDv s k2) km_X6_reverse rfl k_721 k_722 k_723 (by assumption) rfl rfl (Nat.le_of_ble_eq_true rfl) (by decide) (fun r1 I2 h2 => ?_)
    obtain ⟨e9, n1, n2⟩ := h2
    subst e9
    refine mx_iconstN 1 dX9_turns_21 (by decide) ?_
    exact mx_iret dX9_turns_22 rfl (by decide) (⟨cq_s (if_pos k1) n1 hD24 (dfr.of n2 (by omega)), rfl⟩)
  · skip
    refine mx_iconstN 0 dX9_turns_11 (by decide) ?_
    exact mx_iret dX9_turns_12 rfl (by decide) (⟨cq_n (if_neg (wt_nf c8 hs)) hDv hD24, rfl⟩)

set_option maxHeartbeats 400000 in
set_option maxRecDepth 100000 in
theorem ct_exchanges (G : mx_G) (I : mx_I) (a : Nat) (z : Zs) (v : Gr) (hD : dW G I a z v) (k l : Nat) (hk : k < 2 ^ 31) (hl : l < 2 ^ 31) : mx_CTi yX9_exchanges mX9_exchanges 4 [.ref a, .int (nI k), .int (nI l)] G I (fun rv I1 => cgQ I a v (exO v k l) rv I1) := by
  refine mx_start (k := 0) (by decide) rfl rfl (fun h => nomatch h) (Nat.le_of_ble_eq_true rfl) ?_
  show mx_V mX9_exchanges mx_S0 4 0 0 0 [some (.ref a), some (.int (nI k)), some (.int (nI l))] [] G I (fun rv Gz Iz => (fun rv I1 => cgQ I a v (exO v k l) rv I1) rv Iz ∧ Gz = G) (fun _ _ _ => False)
  obtain ⟨hW, hDv, hD24, hrd⟩ := id hD
  have hW0 := hW
  obtain ⟨⟨hSP, hsz, hpe⟩, hTx, hSt, hHi, hSl⟩ := hW
  have oSt : oST G (a + 37) := hSP.2.2.2.2.1.2
  obtain ⟨tg9, ⟨f0, oTx⟩, ⟨f1, oPt⟩, ⟨f2, oRd⟩, ⟨f3, -⟩, ⟨f4, oDr⟩, ⟨f5, oHi⟩, ⟨f6, gSl, lSl, ⟨rq0, oS0⟩, ⟨rq1, oS1⟩⟩, ⟨f7, gFi, lFi⟩, ⟨f8, oSe⟩, ⟨f9, oTr⟩, ⟨f10, oBp⟩⟩ := hSP
  have tg0 : mx_tg G (a + 1) = 17 := oTx.1
  have tg1 : mx_tg G (a + 3) = 12 := oPt.1
  have tg2 : mx_tg G (a + 8) = 13 := oRd.1
  have tg3 : mx_tg G (a + 37) = 16 := oSt.1
  have tg4 : mx_tg G (a + 42) = 16 := oDr.1
  have tg5 : mx_tg G (a + 47) = 11 := oHi.1
  have tg6 : mx_tg G (a + 131) = 15 := oSe.1
  have tg7 : mx_tg G (a + 136) = 15 := oTr.1
  have tg8 : mx_tg G (a + 141) = 10 := oBp.1
  obtain ⟨rT, tT, lT⟩ : mx_rf G (a + 1) 0 = a + 2 ∧ mx_tg G (a + 2) = 2 ∧ mx_ln G (a + 2) = 110 := oTx.2
  have oSt0 : oST G (a + 37) := oSt
  obtain ⟨-, ⟨rF, tF, lF⟩, ⟨rK, tK, lK⟩, ⟨rO, tO, lO⟩, ⟨rC, tC, lC⟩⟩ : mx_tg G (a + 37) = 16 ∧ (mx_rf G (a + 37) 2 = a + 38 ∧ mx_tg G (a + 38) = 1 ∧ mx_ln G (a + 38) = 25) ∧ (mx_rf G (a + 37) 3 = a + 39 ∧ mx_tg G (a + 39) = 1 ∧ mx_ln G (a + 39) = 25) ∧ (mx_rf G (a + 37) 4 = a + 40 ∧ mx_tg G (a + 40) = 1 ∧ mx_ln G (a + 40) = 25) ∧ (mx_rf G (a + 37) 5 = a + 41 ∧ mx_tg G (a + 41) = 1 ∧ mx_ln G (a + 41) = 25) := oSt
  have hSv : stN I (a + 37) (zG z) := hSt.1
  obtain ⟨⟨hP8, hN25, hvb⟩, hs0, hs1, hsF, hsK, hsT, hsC⟩ : stN I (a + 37) (zG z) := hSt.1
  have hN24 : gN (zG z) ≤ 24 := hSt.2.1.1
  have hTx0 := hTx
  obtain ⟨hn110, ht1, htc, htb⟩ : txN I (a + 1) (zN z) (zT z) := hTx
  have hDw : wfG v := hDv.1
  have hDP : gP v ≤ 8 := hDw.1
  obtain ⟨-, dr0, dr1, drF, drK, drT, drC⟩ := id hDv
  have tg42 : mx_tg G (a + 42) = 16 := oDr.1
  have rDC : mx_rf G (a + 42) 5 = a + 46 := oDr.2.2.2.2.1
  have tDC : mx_tg G (a + 46) = 1 := oDr.2.2.2.2.2.1
  have lDC : mx_ln G (a + 46) = 25 := oDr.2.2.2.2.2.2
  refine mx_iload_n (i := 1) (hi := rfl) (hl := rfl) (hd := dX9_exchanges_0) ?_
  refine mx_callSp (As := [.int (nI k)]) (rest := []) dX9_exchanges_1 (ct_isKindN G I k hk) km_X9_isKind rfl k_644 k_394 rfl rfl (Nat.le_of_ble_eq_true rfl) (by decide) ?_
  refine mx_ifB_eq 14 dX9_exchanges_4 (by decide) (fun c4 => ?_) (fun c4 => ?_)
  · skip
    refine mx_iconstN 0 dX9_exchanges_14 (by decide) ?_
    exact mx_iret dX9_exchanges_15 rfl (by decide) (⟨cq_n (if_neg (by first | exact fun q => c4 q.1 | exact fun q => c11 q.2)) hDv hD24, rfl⟩)
  · skip
    refine mx_iload_n (i := 2) (hi := rfl) (hl := rfl) (hd := dX9_exchanges_7) ?_
    refine mx_callSp (As := [.int (nI l)]) (rest := []) dX9_exchanges_8 (ct_isKindN G I l hl) km_X9_isKind rfl k_644 k_394 rfl rfl (Nat.le_of_ble_eq_true rfl) (by decide) ?_
    refine mx_ifB_ne 16 dX9_exchanges_11 (by decide) (fun c11 => ?_) (fun c11 => ?_)
    · skip
      refine mx_aload_n (i := 0) (hi := rfl) (hl := rfl) (hd := dX9_exchanges_16) ?_
      refine mx_getR (ci := 9) (k := 4) (r := (a + 42)) dX9_exchanges_17 k_329 (by decide) rfl (by assumption) (by assumption) (by omega) ?_
      refine mx_iload_n (i := 1) (hi := rfl) (hl := rfl) (hd := dX9_exchanges_20) ?_
      refine mx_iload_n (i := 2) (hi := rfl) (hl := rfl) (hd := dX9_exchanges_21) ?_
      refine mx_callVi (ci := 6) (As := [.int (nI k), .int (nI l)]) (rest := []) dX9_exchanges_22 (ct_swapKinds G I (a + 42) v oDr hDv k l c4 c11) km_X6_swapKinds rfl k_732 k_733 k_734 (by assumption) rfl rfl (Nat.le_of_ble_eq_true rfl) (by decide) (fun r1 I2 h2 => ?_)
      obtain ⟨e9, n1, n2⟩ := h2
      subst e9
      refine mx_pop (hva := rfl) (hd := dX9_exchanges_25) ?_
      refine mx_iconstN 1 dX9_exchanges_26 (by decide) ?_
      exact mx_iret dX9_exchanges_27 rfl (by decide) (⟨cq_s (if_pos ⟨c4, c11⟩) n1 hD24 (dfr.of n2 (by omega)), rfl⟩)
    · skip
      refine mx_iconstN 0 dX9_exchanges_14 (by decide) ?_
      exact mx_iret dX9_exchanges_15 rfl (by decide) (⟨cq_n (if_neg (by first | exact fun q => c4 q.1 | exact fun q => c11 q.2)) hDv hD24, rfl⟩)

def bcF (x : Nat) : Int32 := ((((((((nI x) - ((((nI x : Int32).toUInt32 >>> ((nI 1 : Int32).toUInt32 &&& Int32.toUInt32 31)).toInt32) &&& (nI 1431655765))) &&& (nI 858993459)) + (((((nI x) - ((((nI x : Int32).toUInt32 >>> ((nI 1 : Int32).toUInt32 &&& Int32.toUInt32 31)).toInt32) &&& (nI 1431655765)) : Int32).toUInt32 >>> ((nI 2 : Int32).toUInt32 &&& Int32.toUInt32 31)).toInt32) &&& (nI 858993459))) + ((((((nI x) - ((((nI x : Int32).toUInt32 >>> ((nI 1 : Int32).toUInt32 &&& Int32.toUInt32 31)).toInt32) &&& (nI 1431655765))) &&& (nI 858993459)) + (((((nI x) - ((((nI x : Int32).toUInt32 >>> ((nI 1 : Int32).toUInt32 &&& Int32.toUInt32 31)).toInt32) &&& (nI 1431655765)) : Int32).toUInt32 >>> ((nI 2 : Int32).toUInt32 &&& Int32.toUInt32 31)).toInt32) &&& (nI 858993459)) : Int32).toUInt32 >>> ((nI 4 : Int32).toUInt32 &&& Int32.toUInt32 31)).toInt32)) &&& (nI 252645135)) + ((((((((nI x) - ((((nI x : Int32).toUInt32 >>> ((nI 1 : Int32).toUInt32 &&& Int32.toUInt32 31)).toInt32) &&& (nI 1431655765))) &&& (nI 858993459)) + (((((nI x) - ((((nI x : Int32).toUInt32 >>> ((nI 1 : Int32).toUInt32 &&& Int32.toUInt32 31)).toInt32) &&& (nI 1431655765)) : Int32).toUInt32 >>> ((nI 2 : Int32).toUInt32 &&& Int32.toUInt32 31)).toInt32) &&& (nI 858993459))) + ((((((nI x) - ((((nI x : Int32).toUInt32 >>> ((nI 1 : Int32).toUInt32 &&& Int32.toUInt32 31)).toInt32) &&& (nI 1431655765))) &&& (nI 858993459)) + (((((nI x) - ((((nI x : Int32).toUInt32 >>> ((nI 1 : Int32).toUInt32 &&& Int32.toUInt32 31)).toInt32) &&& (nI 1431655765)) : Int32).toUInt32 >>> ((nI 2 : Int32).toUInt32 &&& Int32.toUInt32 31)).toInt32) &&& (nI 858993459)) : Int32).toUInt32 >>> ((nI 4 : Int32).toUInt32 &&& Int32.toUInt32 31)).toInt32)) &&& (nI 252645135) : Int32).toUInt32 >>> ((nI 8 : Int32).toUInt32 &&& Int32.toUInt32 31)).toInt32)) + (((((((((nI x) - ((((nI x : Int32).toUInt32 >>> ((nI 1 : Int32).toUInt32 &&& Int32.toUInt32 31)).toInt32) &&& (nI 1431655765))) &&& (nI 858993459)) + (((((nI x) - ((((nI x : Int32).toUInt32 >>> ((nI 1 : Int32).toUInt32 &&& Int32.toUInt32 31)).toInt32) &&& (nI 1431655765)) : Int32).toUInt32 >>> ((nI 2 : Int32).toUInt32 &&& Int32.toUInt32 31)).toInt32) &&& (nI 858993459))) + ((((((nI x) - ((((nI x : Int32).toUInt32 >>> ((nI 1 : Int32).toUInt32 &&& Int32.toUInt32 31)).toInt32) &&& (nI 1431655765))) &&& (nI 858993459)) + (((((nI x) - ((((nI x : Int32).toUInt32 >>> ((nI 1 : Int32).toUInt32 &&& Int32.toUInt32 31)).toInt32) &&& (nI 1431655765)) : Int32).toUInt32 >>> ((nI 2 : Int32).toUInt32 &&& Int32.toUInt32 31)).toInt32) &&& (nI 858993459)) : Int32).toUInt32 >>> ((nI 4 : Int32).toUInt32 &&& Int32.toUInt32 31)).toInt32)) &&& (nI 252645135)) + ((((((((nI x) - ((((nI x : Int32).toUInt32 >>> ((nI 1 : Int32).toUInt32 &&& Int32.toUInt32 31)).toInt32) &&& (nI 1431655765))) &&& (nI 858993459)) + (((((nI x) - ((((nI x : Int32).toUInt32 >>> ((nI 1 : Int32).toUInt32 &&& Int32.toUInt32 31)).toInt32) &&& (nI 1431655765)) : Int32).toUInt32 >>> ((nI 2 : Int32).toUInt32 &&& Int32.toUInt32 31)).toInt32) &&& (nI 858993459))) + ((((((nI x) - ((((nI x : Int32).toUInt32 >>> ((nI 1 : Int32).toUInt32 &&& Int32.toUInt32 31)).toInt32) &&& (nI 1431655765))) &&& (nI 858993459)) + (((((nI x) - ((((nI x : Int32).toUInt32 >>> ((nI 1 : Int32).toUInt32 &&& Int32.toUInt32 31)).toInt32) &&& (nI 1431655765)) : Int32).toUInt32 >>> ((nI 2 : Int32).toUInt32 &&& Int32.toUInt32 31)).toInt32) &&& (nI 858993459)) : Int32).toUInt32 >>> ((nI 4 : Int32).toUInt32 &&& Int32.toUInt32 31)).toInt32)) &&& (nI 252645135) : Int32).toUInt32 >>> ((nI 8 : Int32).toUInt32 &&& Int32.toUInt32 31)).toInt32) : Int32).toUInt32 >>> ((nI 16 : Int32).toUInt32 &&& Int32.toUInt32 31)).toInt32)) &&& (nI 63)
theorem bc_all : ∀ x : Fin 256, bcF x.val = nI (onM x.val 24) := by decide +kernel
theorem bc_eq (x : Nat) (hx : x < 256) : ((((((((nI x) - ((((nI x : Int32).toUInt32 >>> ((nI 1 : Int32).toUInt32 &&& Int32.toUInt32 31)).toInt32) &&& (nI 1431655765))) &&& (nI 858993459)) + (((((nI x) - ((((nI x : Int32).toUInt32 >>> ((nI 1 : Int32).toUInt32 &&& Int32.toUInt32 31)).toInt32) &&& (nI 1431655765)) : Int32).toUInt32 >>> ((nI 2 : Int32).toUInt32 &&& Int32.toUInt32 31)).toInt32) &&& (nI 858993459))) + ((((((nI x) - ((((nI x : Int32).toUInt32 >>> ((nI 1 : Int32).toUInt32 &&& Int32.toUInt32 31)).toInt32) &&& (nI 1431655765))) &&& (nI 858993459)) + (((((nI x) - ((((nI x : Int32).toUInt32 >>> ((nI 1 : Int32).toUInt32 &&& Int32.toUInt32 31)).toInt32) &&& (nI 1431655765)) : Int32).toUInt32 >>> ((nI 2 : Int32).toUInt32 &&& Int32.toUInt32 31)).toInt32) &&& (nI 858993459)) : Int32).toUInt32 >>> ((nI 4 : Int32).toUInt32 &&& Int32.toUInt32 31)).toInt32)) &&& (nI 252645135)) + ((((((((nI x) - ((((nI x : Int32).toUInt32 >>> ((nI 1 : Int32).toUInt32 &&& Int32.toUInt32 31)).toInt32) &&& (nI 1431655765))) &&& (nI 858993459)) + (((((nI x) - ((((nI x : Int32).toUInt32 >>> ((nI 1 : Int32).toUInt32 &&& Int32.toUInt32 31)).toInt32) &&& (nI 1431655765)) : Int32).toUInt32 >>> ((nI 2 : Int32).toUInt32 &&& Int32.toUInt32 31)).toInt32) &&& (nI 858993459))) + ((((((nI x) - ((((nI x : Int32).toUInt32 >>> ((nI 1 : Int32).toUInt32 &&& Int32.toUInt32 31)).toInt32) &&& (nI 1431655765))) &&& (nI 858993459)) + (((((nI x) - ((((nI x : Int32).toUInt32 >>> ((nI 1 : Int32).toUInt32 &&& Int32.toUInt32 31)).toInt32) &&& (nI 1431655765)) : Int32).toUInt32 >>> ((nI 2 : Int32).toUInt32 &&& Int32.toUInt32 31)).toInt32) &&& (nI 858993459)) : Int32).toUInt32 >>> ((nI 4 : Int32).toUInt32 &&& Int32.toUInt32 31)).toInt32)) &&& (nI 252645135) : Int32).toUInt32 >>> ((nI 8 : Int32).toUInt32 &&& Int32.toUInt32 31)).toInt32)) + (((((((((nI x) - ((((nI x : Int32).toUInt32 >>> ((nI 1 : Int32).toUInt32 &&& Int32.toUInt32 31)).toInt32) &&& (nI 1431655765))) &&& (nI 858993459)) + (((((nI x) - ((((nI x : Int32).toUInt32 >>> ((nI 1 : Int32).toUInt32 &&& Int32.toUInt32 31)).toInt32) &&& (nI 1431655765)) : Int32).toUInt32 >>> ((nI 2 : Int32).toUInt32 &&& Int32.toUInt32 31)).toInt32) &&& (nI 858993459))) + ((((((nI x) - ((((nI x : Int32).toUInt32 >>> ((nI 1 : Int32).toUInt32 &&& Int32.toUInt32 31)).toInt32) &&& (nI 1431655765))) &&& (nI 858993459)) + (((((nI x) - ((((nI x : Int32).toUInt32 >>> ((nI 1 : Int32).toUInt32 &&& Int32.toUInt32 31)).toInt32) &&& (nI 1431655765)) : Int32).toUInt32 >>> ((nI 2 : Int32).toUInt32 &&& Int32.toUInt32 31)).toInt32) &&& (nI 858993459)) : Int32).toUInt32 >>> ((nI 4 : Int32).toUInt32 &&& Int32.toUInt32 31)).toInt32)) &&& (nI 252645135)) + ((((((((nI x) - ((((nI x : Int32).toUInt32 >>> ((nI 1 : Int32).toUInt32 &&& Int32.toUInt32 31)).toInt32) &&& (nI 1431655765))) &&& (nI 858993459)) + (((((nI x) - ((((nI x : Int32).toUInt32 >>> ((nI 1 : Int32).toUInt32 &&& Int32.toUInt32 31)).toInt32) &&& (nI 1431655765)) : Int32).toUInt32 >>> ((nI 2 : Int32).toUInt32 &&& Int32.toUInt32 31)).toInt32) &&& (nI 858993459))) + ((((((nI x) - ((((nI x : Int32).toUInt32 >>> ((nI 1 : Int32).toUInt32 &&& Int32.toUInt32 31)).toInt32) &&& (nI 1431655765))) &&& (nI 858993459)) + (((((nI x) - ((((nI x : Int32).toUInt32 >>> ((nI 1 : Int32).toUInt32 &&& Int32.toUInt32 31)).toInt32) &&& (nI 1431655765)) : Int32).toUInt32 >>> ((nI 2 : Int32).toUInt32 &&& Int32.toUInt32 31)).toInt32) &&& (nI 858993459)) : Int32).toUInt32 >>> ((nI 4 : Int32).toUInt32 &&& Int32.toUInt32 31)).toInt32)) &&& (nI 252645135) : Int32).toUInt32 >>> ((nI 8 : Int32).toUInt32 &&& Int32.toUInt32 31)).toInt32) : Int32).toUInt32 >>> ((nI 16 : Int32).toUInt32 &&& Int32.toUInt32 31)).toInt32)) &&& (nI 63) = nI (onM x 24) := bc_all ⟨x, hx⟩

set_option maxHeartbeats 4000000 in
set_option maxRecDepth 100000 in
theorem ct_bitCount (G : mx_G) (I : mx_I) (x : Nat) (hx : x < 256) : mx_CTp yJ6_bitCount_0f7a4 mJ6_bitCount_0f7a4 1 [.int (nI x)] G I (some (.int (nI (onM x 24)))) := by
  refine mx_start (k := 0) (by decide) rfl rfl (fun h => nomatch h) (Nat.le_of_ble_eq_true rfl) ?_
  show mx_V mJ6_bitCount_0f7a4 mx_S0 1 0 0 0 [some (.int (nI x))] [] G I (fun rv Gz Iz => rv = some (.int (nI (onM x 24))) ∧ Gz = G ∧ Iz = I) (fun _ _ _ => False)
  refine mx_iload_n (i := 0) (hi := rfl) (hl := rfl) (hd := dJ6_bitCount_0f7a4_0) ?_
  refine mx_iload_n (i := 0) (hi := rfl) (hl := rfl) (hd := dJ6_bitCount_0f7a4_1) ?_
  refine mx_iconstN 1 dJ6_bitCount_0f7a4_2 (by decide) ?_
  refine mx_iushr (hv := rfl) (hd := dJ6_bitCount_0f7a4_3) ?_
  refine mx_ldcw (v := (1431655765)) k_973 dJ6_bitCount_0f7a4_4 ?_
  refine mx_top (y := nI 1431655765) (by decide) ?_
  refine mx_iand dJ6_bitCount_0f7a4_7 ?_
  refine mx_isub dJ6_bitCount_0f7a4_8 ?_
  refine mx_istoreE_n (i := 0) (ls' := [some (.int ((nI x) - ((((nI x : Int32).toUInt32 >>> ((nI 1 : Int32).toUInt32 &&& Int32.toUInt32 31)).toInt32) &&& (nI 1431655765))))]) (hi := rfl) (hd := dJ6_bitCount_0f7a4_9) (hn := by decide) (hok := rfl) (hls := rfl) ?_
  refine mx_iload_n (i := 0) (hi := rfl) (hl := rfl) (hd := dJ6_bitCount_0f7a4_10) ?_
  refine mx_ldcw (v := (858993459)) k_974 dJ6_bitCount_0f7a4_11 ?_
  refine mx_top (y := nI 858993459) (by decide) ?_
  refine mx_iand dJ6_bitCount_0f7a4_14 ?_
  refine mx_iload_n (i := 0) (hi := rfl) (hl := rfl) (hd := dJ6_bitCount_0f7a4_15) ?_
  refine mx_iconstN 2 dJ6_bitCount_0f7a4_16 (by decide) ?_
  refine mx_iushr (hv := rfl) (hd := dJ6_bitCount_0f7a4_17) ?_
  refine mx_ldcw (v := (858993459)) k_974 dJ6_bitCount_0f7a4_18 ?_
  refine mx_top (y := nI 858993459) (by decide) ?_
  refine mx_iand dJ6_bitCount_0f7a4_21 ?_
  refine mx_iadd dJ6_bitCount_0f7a4_22 ?_
  refine mx_istoreE_n (i := 0) (ls' := [some (.int ((((nI x) - ((((nI x : Int32).toUInt32 >>> ((nI 1 : Int32).toUInt32 &&& Int32.toUInt32 31)).toInt32) &&& (nI 1431655765))) &&& (nI 858993459)) + (((((nI x) - ((((nI x : Int32).toUInt32 >>> ((nI 1 : Int32).toUInt32 &&& Int32.toUInt32 31)).toInt32) &&& (nI 1431655765)) : Int32).toUInt32 >>> ((nI 2 : Int32).toUInt32 &&& Int32.toUInt32 31)).toInt32) &&& (nI 858993459))))]) (hi := rfl) (hd := dJ6_bitCount_0f7a4_23) (hn := by decide) (hok := rfl) (hls := rfl) ?_
  refine mx_iload_n (i := 0) (hi := rfl) (hl := rfl) (hd := dJ6_bitCount_0f7a4_24) ?_
  refine mx_iload_n (i := 0) (hi := rfl) (hl := rfl) (hd := dJ6_bitCount_0f7a4_25) ?_
  refine mx_iconstN 4 dJ6_bitCount_0f7a4_26 (by decide) ?_
  refine mx_iushr (hv := rfl) (hd := dJ6_bitCount_0f7a4_27) ?_
  refine mx_iadd dJ6_bitCount_0f7a4_28 ?_
  refine mx_ldcw (v := (252645135)) k_975 dJ6_bitCount_0f7a4_29 ?_
  refine mx_top (y := nI 252645135) (by decide) ?_
  refine mx_iand dJ6_bitCount_0f7a4_32 ?_
  refine mx_istoreE_n (i := 0) (ls' := [some (.int ((((((nI x) - ((((nI x : Int32).toUInt32 >>> ((nI 1 : Int32).toUInt32 &&& Int32.toUInt32 31)).toInt32) &&& (nI 1431655765))) &&& (nI 858993459)) + (((((nI x) - ((((nI x : Int32).toUInt32 >>> ((nI 1 : Int32).toUInt32 &&& Int32.toUInt32 31)).toInt32) &&& (nI 1431655765)) : Int32).toUInt32 >>> ((nI 2 : Int32).toUInt32 &&& Int32.toUInt32 31)).toInt32) &&& (nI 858993459))) + ((((((nI x) - ((((nI x : Int32).toUInt32 >>> ((nI 1 : Int32).toUInt32 &&& Int32.toUInt32 31)).toInt32) &&& (nI 1431655765))) &&& (nI 858993459)) + (((((nI x) - ((((nI x : Int32).toUInt32 >>> ((nI 1 : Int32).toUInt32 &&& Int32.toUInt32 31)).toInt32) &&& (nI 1431655765)) : Int32).toUInt32 >>> ((nI 2 : Int32).toUInt32 &&& Int32.toUInt32 31)).toInt32) &&& (nI 858993459)) : Int32).toUInt32 >>> ((nI 4 : Int32).toUInt32 &&& Int32.toUInt32 31)).toInt32)) &&& (nI 252645135)))]) (hi := rfl) (hd := dJ6_bitCount_0f7a4_33) (hn := by decide) (hok := rfl) (hls := rfl) ?_
  refine mx_iload_n (i := 0) (hi := rfl) (hl := rfl) (hd := dJ6_bitCount_0f7a4_34) ?_
  refine mx_iload_n (i := 0) (hi := rfl) (hl := rfl) (hd := dJ6_bitCount_0f7a4_35) ?_
  refine mx_bipushN 8 dJ6_bitCount_0f7a4_36 (by decide) ?_
  refine mx_iushr (hv := rfl) (hd := dJ6_bitCount_0f7a4_38) ?_
  refine mx_iadd dJ6_bitCount_0f7a4_39 ?_
  refine mx_istoreE_n (i := 0) (ls' := [some (.int (((((((nI x) - ((((nI x : Int32).toUInt32 >>> ((nI 1 : Int32).toUInt32 &&& Int32.toUInt32 31)).toInt32) &&& (nI 1431655765))) &&& (nI 858993459)) + (((((nI x) - ((((nI x : Int32).toUInt32 >>> ((nI 1 : Int32).toUInt32 &&& Int32.toUInt32 31)).toInt32) &&& (nI 1431655765)) : Int32).toUInt32 >>> ((nI 2 : Int32).toUInt32 &&& Int32.toUInt32 31)).toInt32) &&& (nI 858993459))) + ((((((nI x) - ((((nI x : Int32).toUInt32 >>> ((nI 1 : Int32).toUInt32 &&& Int32.toUInt32 31)).toInt32) &&& (nI 1431655765))) &&& (nI 858993459)) + (((((nI x) - ((((nI x : Int32).toUInt32 >>> ((nI 1 : Int32).toUInt32 &&& Int32.toUInt32 31)).toInt32) &&& (nI 1431655765)) : Int32).toUInt32 >>> ((nI 2 : Int32).toUInt32 &&& Int32.toUInt32 31)).toInt32) &&& (nI 858993459)) : Int32).toUInt32 >>> ((nI 4 : Int32).toUInt32 &&& Int32.toUInt32 31)).toInt32)) &&& (nI 252645135)) + ((((((((nI x) - ((((nI x : Int32).toUInt32 >>> ((nI 1 : Int32).toUInt32 &&& Int32.toUInt32 31)).toInt32) &&& (nI 1431655765))) &&& (nI 858993459)) + (((((nI x) - ((((nI x : Int32).toUInt32 >>> ((nI 1 : Int32).toUInt32 &&& Int32.toUInt32 31)).toInt32) &&& (nI 1431655765)) : Int32).toUInt32 >>> ((nI 2 : Int32).toUInt32 &&& Int32.toUInt32 31)).toInt32) &&& (nI 858993459))) + ((((((nI x) - ((((nI x : Int32).toUInt32 >>> ((nI 1 : Int32).toUInt32 &&& Int32.toUInt32 31)).toInt32) &&& (nI 1431655765))) &&& (nI 858993459)) + (((((nI x) - ((((nI x : Int32).toUInt32 >>> ((nI 1 : Int32).toUInt32 &&& Int32.toUInt32 31)).toInt32) &&& (nI 1431655765)) : Int32).toUInt32 >>> ((nI 2 : Int32).toUInt32 &&& Int32.toUInt32 31)).toInt32) &&& (nI 858993459)) : Int32).toUInt32 >>> ((nI 4 : Int32).toUInt32 &&& Int32.toUInt32 31)).toInt32)) &&& (nI 252645135) : Int32).toUInt32 >>> ((nI 8 : Int32).toUInt32 &&& Int32.toUInt32 31)).toInt32)))]) (hi := rfl) (hd := dJ6_bitCount_0f7a4_40) (hn := by decide) (hok := rfl) (hls := rfl) ?_
  refine mx_iload_n (i := 0) (hi := rfl) (hl := rfl) (hd := dJ6_bitCount_0f7a4_41) ?_
  refine mx_iload_n (i := 0) (hi := rfl) (hl := rfl) (hd := dJ6_bitCount_0f7a4_42) ?_
  refine mx_bipushN 16 dJ6_bitCount_0f7a4_43 (by decide) ?_
  refine mx_iushr (hv := rfl) (hd := dJ6_bitCount_0f7a4_45) ?_
  refine mx_iadd dJ6_bitCount_0f7a4_46 ?_
  refine mx_istoreE_n (i := 0) (ls' := [some (.int ((((((((nI x) - ((((nI x : Int32).toUInt32 >>> ((nI 1 : Int32).toUInt32 &&& Int32.toUInt32 31)).toInt32) &&& (nI 1431655765))) &&& (nI 858993459)) + (((((nI x) - ((((nI x : Int32).toUInt32 >>> ((nI 1 : Int32).toUInt32 &&& Int32.toUInt32 31)).toInt32) &&& (nI 1431655765)) : Int32).toUInt32 >>> ((nI 2 : Int32).toUInt32 &&& Int32.toUInt32 31)).toInt32) &&& (nI 858993459))) + ((((((nI x) - ((((nI x : Int32).toUInt32 >>> ((nI 1 : Int32).toUInt32 &&& Int32.toUInt32 31)).toInt32) &&& (nI 1431655765))) &&& (nI 858993459)) + (((((nI x) - ((((nI x : Int32).toUInt32 >>> ((nI 1 : Int32).toUInt32 &&& Int32.toUInt32 31)).toInt32) &&& (nI 1431655765)) : Int32).toUInt32 >>> ((nI 2 : Int32).toUInt32 &&& Int32.toUInt32 31)).toInt32) &&& (nI 858993459)) : Int32).toUInt32 >>> ((nI 4 : Int32).toUInt32 &&& Int32.toUInt32 31)).toInt32)) &&& (nI 252645135)) + ((((((((nI x) - ((((nI x : Int32).toUInt32 >>> ((nI 1 : Int32).toUInt32 &&& Int32.toUInt32 31)).toInt32) &&& (nI 1431655765))) &&& (nI 858993459)) + (((((nI x) - ((((nI x : Int32).toUInt32 >>> ((nI 1 : Int32).toUInt32 &&& Int32.toUInt32 31)).toInt32) &&& (nI 1431655765)) : Int32).toUInt32 >>> ((nI 2 : Int32).toUInt32 &&& Int32.toUInt32 31)).toInt32) &&& (nI 858993459))) + ((((((nI x) - ((((nI x : Int32).toUInt32 >>> ((nI 1 : Int32).toUInt32 &&& Int32.toUInt32 31)).toInt32) &&& (nI 1431655765))) &&& (nI 858993459)) + (((((nI x) - ((((nI x : Int32).toUInt32 >>> ((nI 1 : Int32).toUInt32 &&& Int32.toUInt32 31)).toInt32) &&& (nI 1431655765)) : Int32).toUInt32 >>> ((nI 2 : Int32).toUInt32 &&& Int32.toUInt32 31)).toInt32) &&& (nI 858993459)) : Int32).toUInt32 >>> ((nI 4 : Int32).toUInt32 &&& Int32.toUInt32 31)).toInt32)) &&& (nI 252645135) : Int32).toUInt32 >>> ((nI 8 : Int32).toUInt32 &&& Int32.toUInt32 31)).toInt32)) + (((((((((nI x) - ((((nI x : Int32).toUInt32 >>> ((nI 1 : Int32).toUInt32 &&& Int32.toUInt32 31)).toInt32) &&& (nI 1431655765))) &&& (nI 858993459)) + (((((nI x) - ((((nI x : Int32).toUInt32 >>> ((nI 1 : Int32).toUInt32 &&& Int32.toUInt32 31)).toInt32) &&& (nI 1431655765)) : Int32).toUInt32 >>> ((nI 2 : Int32).toUInt32 &&& Int32.toUInt32 31)).toInt32) &&& (nI 858993459))) + ((((((nI x) - ((((nI x : Int32).toUInt32 >>> ((nI 1 : Int32).toUInt32 &&& Int32.toUInt32 31)).toInt32) &&& (nI 1431655765))) &&& (nI 858993459)) + (((((nI x) - ((((nI x : Int32).toUInt32 >>> ((nI 1 : Int32).toUInt32 &&& Int32.toUInt32 31)).toInt32) &&& (nI 1431655765)) : Int32).toUInt32 >>> ((nI 2 : Int32).toUInt32 &&& Int32.toUInt32 31)).toInt32) &&& (nI 858993459)) : Int32).toUInt32 >>> ((nI 4 : Int32).toUInt32 &&& Int32.toUInt32 31)).toInt32)) &&& (nI 252645135)) + ((((((((nI x) - ((((nI x : Int32).toUInt32 >>> ((nI 1 : Int32).toUInt32 &&& Int32.toUInt32 31)).toInt32) &&& (nI 1431655765))) &&& (nI 858993459)) + (((((nI x) - ((((nI x : Int32).toUInt32 >>> ((nI 1 : Int32).toUInt32 &&& Int32.toUInt32 31)).toInt32) &&& (nI 1431655765)) : Int32).toUInt32 >>> ((nI 2 : Int32).toUInt32 &&& Int32.toUInt32 31)).toInt32) &&& (nI 858993459))) + ((((((nI x) - ((((nI x : Int32).toUInt32 >>> ((nI 1 : Int32).toUInt32 &&& Int32.toUInt32 31)).toInt32) &&& (nI 1431655765))) &&& (nI 858993459)) + (((((nI x) - ((((nI x : Int32).toUInt32 >>> ((nI 1 : Int32).toUInt32 &&& Int32.toUInt32 31)).toInt32) &&& (nI 1431655765)) : Int32).toUInt32 >>> ((nI 2 : Int32).toUInt32 &&& Int32.toUInt32 31)).toInt32) &&& (nI 858993459)) : Int32).toUInt32 >>> ((nI 4 : Int32).toUInt32 &&& Int32.toUInt32 31)).toInt32)) &&& (nI 252645135) : Int32).toUInt32 >>> ((nI 8 : Int32).toUInt32 &&& Int32.toUInt32 31)).toInt32) : Int32).toUInt32 >>> ((nI 16 : Int32).toUInt32 &&& Int32.toUInt32 31)).toInt32)))]) (hi := rfl) (hd := dJ6_bitCount_0f7a4_47) (hn := by decide) (hok := rfl) (hls := rfl) ?_
  refine mx_iload_n (i := 0) (hi := rfl) (hl := rfl) (hd := dJ6_bitCount_0f7a4_48) ?_
  refine mx_bipushN 63 dJ6_bitCount_0f7a4_49 (by decide) ?_
  refine mx_iand dJ6_bitCount_0f7a4_51 ?_
  exact mx_iret dJ6_bitCount_0f7a4_52 rfl rfl (⟨congrArg (fun z => some (Value.int z)) (bc_eq x hx), rfl, rfl⟩)

theorem pfB_lt (cs : Nat → Option Nat) : ∀ n, pfB cs n < 2 ^ n
  | 0 => Nat.one_pos
  | n + 1 => by
    have h := pfB_lt cs n
    unfold pfB
    refine Nat.or_lt_two_pow (Nat.lt_trans h (Nat.pow_lt_pow_right (by decide) (Nat.lt_succ_self n))) ?_
    split
    · exact Nat.two_pow_pos _
    · exact Nat.pow_lt_pow_right (by decide) (Nat.lt_succ_self n)
/-- whether a command that asks holds, by what the class finds -/
def hdC (v : Gr) (A : Pa) (ho a b c d : Nat) : Prop := match ho with
  | 6 => (a < gP v ∧ b < gP v) ∧ ¬ sCs v A a (some b) 0 (10 * c + d + 1) b = none
  | 7 => ((a < gP v ∧ b < gP v) ∧ c = 0) ∧ (¬ gfm (aFin v A b).2.2.1 a = none ∧ (gfm (aFin v A b).2.2.1 a).getD 0 ≤ d)
  | 8 => (a < gP v ∧ b + c = 0) ∧ d ≤ onM (pfB (sCs v A a none 0 1512) (gP v)) 24
  | 9 => (10 * a + b < gN v ∧ c < gP v ∧ d < gP v) ∧ (¬ sCs v A c (some d) 0 1512 d = none ∧ sCs v A c (some d) (2 ^ (10 * a + b)) 1512 d = none)
  | _ => False
theorem hdC_6 (v : Gr) (A : Pa) (a b c d : Nat) : hdC v A 6 a b c d = ((a < gP v ∧ b < gP v) ∧ ¬ sCs v A a (some b) 0 (10 * c + d + 1) b = none) := by unfold hdC; rfl
theorem hdC_7 (v : Gr) (A : Pa) (a b c d : Nat) : hdC v A 7 a b c d = (((a < gP v ∧ b < gP v) ∧ c = 0) ∧ (¬ gfm (aFin v A b).2.2.1 a = none ∧ (gfm (aFin v A b).2.2.1 a).getD 0 ≤ d)) := by unfold hdC; rfl
theorem hdC_8 (v : Gr) (A : Pa) (a b c d : Nat) : hdC v A 8 a b c d = ((a < gP v ∧ b + c = 0) ∧ d ≤ onM (pfB (sCs v A a none 0 1512) (gP v)) 24) := by unfold hdC; rfl
theorem hdC_9 (v : Gr) (A : Pa) (a b c d : Nat) : hdC v A 9 a b c d = ((10 * a + b < gN v ∧ c < gP v ∧ d < gP v) ∧ (¬ sCs v A c (some d) 0 1512 d = none ∧ sCs v A c (some d) (2 ^ (10 * a + b)) 1512 d = none)) := by unfold hdC; rfl
theorem hdC_0 {v : Gr} {A : Pa} {ho a b c d : Nat} (h : ho < 6) : ¬ hdC v A ho a b c d := by
  rcases (show ho = 0 ∨ ho = 1 ∨ ho = 2 ∨ ho = 3 ∨ ho = 4 ∨ ho = 5 by omega) with rfl | rfl | rfl | rfl | rfl | rfl <;> exact fun q => q
def hdQ (I : mx_I) (a : Nat) (v : Gr) (c : Prop) (rv : Option Value) (I1 : mx_I) : Prop := ∃ b9 : Bool, rv = some (.int (mx_b (decide (b9 = true)))) ∧ (b9 = true ↔ c) ∧ stN I1 (a + 42) v ∧ dfr a I I1
theorem hd_t {I I1 : mx_I} {a : Nat} {v : Gr} {c : Prop} (h : c) (h1 : stN I1 (a + 42) v) (h2 : dfr a I I1) : hdQ I a v c (some (.int (nI 1))) I1 := ⟨true, rfl, ⟨fun _ => h, fun _ => rfl⟩, h1, h2⟩
theorem hd_f {I I1 : mx_I} {a : Nat} {v : Gr} {c : Prop} (h : ¬ c) (h1 : stN I1 (a + 42) v) (h2 : dfr a I I1) : hdQ I a v c (some (.int (nI 0))) I1 := ⟨false, rfl, ⟨fun q => (nomatch q), fun q => absurd q h⟩, h1, h2⟩
theorem hd_d {I I1 : mx_I} {a : Nat} {v : Gr} {c d : Prop} [Decidable d] (h : d ↔ c) (h1 : stN I1 (a + 42) v) (h2 : dfr a I I1) : hdQ I a v c (some (.int (mx_b (decide d)))) I1 := ⟨decide d, by rw [mx_dec], decide_eq_true_iff.trans h, h1, h2⟩
theorem stN.m {I I1 : mx_I} {a lo hi : Nat} {v : Gr} (h : stN I (a + 42) v) (f : mx_fr I I1 lo hi) (h1 : a + 131 ≤ lo) : stN I1 (a + 42) v := h.k (fun b q1 q2 => f b (by omega))

set_option maxHeartbeats 1000000 in
set_option maxRecDepth 100000 in
theorem ct_costsAtMost (G : mx_G) (I : mx_I) (a : Nat) (z : Zs) (v : Gr) (hD : dW G I a z v) (p q most : Nat) (hp : p < 2 ^ 31) (hq : q < 2 ^ 31) (hm : most < 1000) : mx_CTi yX9_costsAtMost mX9_costsAtMost 6 [.ref a, .int (nI p), .int (nI q), .int (nI most)] G I (fun rv I1 => hdQ I a v ((p < gP v ∧ q < gP v) ∧ ¬ sCs v (vA (zX z)) p (some q) 0 (most + 1) q = none) rv I1) := by
  refine mx_start (k := 0) (by decide) rfl rfl (fun h => nomatch h) (Nat.le_of_ble_eq_true rfl) ?_
  show mx_V mX9_costsAtMost mx_S0 6 0 0 0 [some (.ref a), some (.int (nI p)), some (.int (nI q)), some (.int (nI most))] [] G I (fun rv Gz Iz => (fun rv I1 => hdQ I a v ((p < gP v ∧ q < gP v) ∧ ¬ sCs v (vA (zX z)) p (some q) 0 (most + 1) q = none) rv I1) rv Iz ∧ Gz = G) (fun _ _ _ => False)
  obtain ⟨hW, hDv, hD24, hrd⟩ := id hD
  have hW0 := hW
  obtain ⟨⟨hSP, hsz, hpe⟩, hTx, hSt, hHi, hSl⟩ := hW
  have oSt : oST G (a + 37) := hSP.2.2.2.2.1.2
  obtain ⟨tg9, ⟨f0, oTx⟩, ⟨f1, oPt⟩, ⟨f2, oRd⟩, ⟨f3, -⟩, ⟨f4, oDr⟩, ⟨f5, oHi⟩, ⟨f6, gSl, lSl, ⟨rq0, oS0⟩, ⟨rq1, oS1⟩⟩, ⟨f7, gFi, lFi⟩, ⟨f8, oSe⟩, ⟨f9, oTr⟩, ⟨f10, oBp⟩⟩ := hSP
  have tg0 : mx_tg G (a + 1) = 17 := oTx.1
  have tg1 : mx_tg G (a + 3) = 12 := oPt.1
  have tg2 : mx_tg G (a + 8) = 13 := oRd.1
  have tg3 : mx_tg G (a + 37) = 16 := oSt.1
  have tg4 : mx_tg G (a + 42) = 16 := oDr.1
  have tg5 : mx_tg G (a + 47) = 11 := oHi.1
  have tg6 : mx_tg G (a + 131) = 15 := oSe.1
  have tg7 : mx_tg G (a + 136) = 15 := oTr.1
  have tg8 : mx_tg G (a + 141) = 10 := oBp.1
  obtain ⟨rT, tT, lT⟩ : mx_rf G (a + 1) 0 = a + 2 ∧ mx_tg G (a + 2) = 2 ∧ mx_ln G (a + 2) = 110 := oTx.2
  have oSt0 : oST G (a + 37) := oSt
  obtain ⟨-, ⟨rF, tF, lF⟩, ⟨rK, tK, lK⟩, ⟨rO, tO, lO⟩, ⟨rC, tC, lC⟩⟩ : mx_tg G (a + 37) = 16 ∧ (mx_rf G (a + 37) 2 = a + 38 ∧ mx_tg G (a + 38) = 1 ∧ mx_ln G (a + 38) = 25) ∧ (mx_rf G (a + 37) 3 = a + 39 ∧ mx_tg G (a + 39) = 1 ∧ mx_ln G (a + 39) = 25) ∧ (mx_rf G (a + 37) 4 = a + 40 ∧ mx_tg G (a + 40) = 1 ∧ mx_ln G (a + 40) = 25) ∧ (mx_rf G (a + 37) 5 = a + 41 ∧ mx_tg G (a + 41) = 1 ∧ mx_ln G (a + 41) = 25) := oSt
  have hSv : stN I (a + 37) (zG z) := hSt.1
  obtain ⟨⟨hP8, hN25, hvb⟩, hs0, hs1, hsF, hsK, hsT, hsC⟩ : stN I (a + 37) (zG z) := hSt.1
  have hN24 : gN (zG z) ≤ 24 := hSt.2.1.1
  have hTx0 := hTx
  obtain ⟨hn110, ht1, htc, htb⟩ : txN I (a + 1) (zN z) (zT z) := hTx
  have hDw : wfG v := hDv.1
  have hDP : gP v ≤ 8 := hDw.1
  obtain ⟨-, dr0, dr1, drF, drK, drT, drC⟩ := id hDv
  have tg42 : mx_tg G (a + 42) = 16 := oDr.1
  have rDC : mx_rf G (a + 42) 5 = a + 46 := oDr.2.2.2.2.1
  have tDC : mx_tg G (a + 46) = 1 := oDr.2.2.2.2.2.1
  have lDC : mx_ln G (a + 46) = 25 := oDr.2.2.2.2.2.2
  obtain ⟨pt, hpt⟩ : ∃ pt, mx_rf G (a + 37) 6 = pt := ⟨_, rfl⟩
  have he0 : env G I (a + 37) pt (zG z) (vA (zX z)) := by rw [← hpt]; exact hW0.env
  have hpd : pt = a + 3 ∨ a + 146 ≤ pt := by rw [← hpt]; exact hW0.2.2.1.2.2.1
  have hpd5 : pt + 5 ≤ mx_sz G := by rw [← hpt]; exact hW0.2.2.1.2.2.2.1
  have tgp : mx_tg G pt = 12 := he0.2.1.1
  obtain ⟨rch, tch, lch⟩ : mx_rf G pt 0 = pt + 1 ∧ mx_tg G (pt + 1) = 2 ∧ mx_ln G (pt + 1) = 40 := he0.2.1.2.1
  have hpn : ptN I pt (vA (zX z)) := he0.2.2.2.2
  have hwfp : wfP (vA (zX z)) := hpn.1
  have hwfg : wfG (zG z) := he0.2.2.2.1.1
  have hn40 : (zX z).2.1 ≤ 40 := hSt.2.1.2.1
  have hpz : I pt 1 = nI (zX z).2.1 := by
    rw [hpn.2.1, show pSz (vA (zX z)) = min (zX z).2.1 40 from (rdF_sz _ _).1, Nat.min_eq_left hn40]
  have hpl : I pt 2 = nI (pL (vA (zX z))) := hpn.2.2.1
  have hpc : ∀ i, i < (zX z).2.1 → I (pt + 1) i = nI ((zX z).2.2 i) := fun i hi => by
    have h := hpn.2.2.2.2.1 i (by rw [show pSz (vA (zX z)) = min (zX z).2.1 40 from (rdF_sz _ _).1, Nat.min_eq_left hn40]; exact hi)
    rw [h, show pCh (vA (zX z)) = (zX z).2.2 from (rdF_sz _ _).2]
  have hpc8 : ∀ i, i < (zX z).2.1 → (zX z).2.2 i < 256 := hSt.2.1.2.2.2
  have heD : env G I (a + 42) pt v (vA (zX z)) := by rw [← hpt]; exact denvW hW0 hrd hDv
  refine mx_aload_n (i := 0) (hi := rfl) (hl := rfl) (hd := dX9_costsAtMost_0) ?_
  refine mx_getR (ci := 9) (k := 4) (r := (a + 42)) dX9_costsAtMost_1 k_329 (by decide) rfl (by assumption) (by assumption) (by omega) ?_
  refine mx_iload_n (i := 1) (hi := rfl) (hl := rfl) (hd := dX9_costsAtMost_4) ?_
  refine mx_iload_n (i := 2) (hi := rfl) (hl := rfl) (hd := dX9_costsAtMost_5) ?_
  refine mx_callVp (ci := 6) (As := [.int (nI p), .int (nI q)]) (rest := []) dX9_costsAtMost_6 (ct_hasPeopleN G I (a + 42) v oDr hDv p q hp hq) km_X6_hasPeople rfl k_639 k_640 k_641 (by assumption) rfl rfl (Nat.le_of_ble_eq_true rfl) (by decide) ?_
  refine mx_ifB_eq 38 dX9_costsAtMost_9 (by decide) (fun c9 => ?_) (fun c9 => ?_)
  · skip
    refine mx_iconstN 0 dX9_costsAtMost_38 (by decide) ?_
    exact mx_iret dX9_costsAtMost_39 rfl (by decide) (⟨hd_f (by first | exact fun q => c9 q.1 | exact fun q => q.2 ((oI_iff hlt).mp c31)) hDv (dfr.rf a I), rfl⟩)
  · skip
    refine mx_aload_n (i := 0) (hi := rfl) (hl := rfl) (hd := dX9_costsAtMost_12) ?_
    refine mx_getR (ci := 9) (k := 8) (r := (a + 131)) dX9_costsAtMost_13 k_333 (by decide) rfl (by assumption) (by assumption) (by omega) ?_
    refine mx_aload_n (i := 0) (hi := rfl) (hl := rfl) (hd := dX9_costsAtMost_16) ?_
    refine mx_getR (ci := 9) (k := 4) (r := (a + 42)) dX9_costsAtMost_17 k_329 (by decide) rfl (by assumption) (by assumption) (by omega) ?_
    refine mx_iload_n (i := 1) (hi := rfl) (hl := rfl) (hd := dX9_costsAtMost_20) ?_
    refine mx_iload_n (i := 2) (hi := rfl) (hl := rfl) (hd := dX9_costsAtMost_21) ?_
    refine mx_iconstN 0 dX9_costsAtMost_22 (by decide) ?_
    refine mx_iload_n (i := 3) (hi := rfl) (hl := rfl) (hd := dX9_costsAtMost_23) ?_
    refine mx_iconstN 1 dX9_costsAtMost_24 (by decide) ?_
    refine mx_iaddN dX9_costsAtMost_25 ?_
    refine mx_callVi (ci := 5) (As := [.ref (a + 42), .int (nI p), .int (nI q), .int (nI 0), .int (nI (most + 1))]) (rest := []) dX9_costsAtMost_26 (ct_between G I (a + 131) oSe (a + 42) pt _ _ heD (by omega) (pd_o hpd (by decide)) p q 0 (most + 1) c9.1 c9.2 (by decide) (by omega)) km_X5_between rfl k_799 k_800 k_801 (by assumption) rfl rfl (Nat.le_of_ble_eq_true rfl) (by decide) (fun r1 I2 h2 => ?_)
    obtain ⟨e9, n1⟩ := h2
    subst e9
    have hlt : ∀ c, sCs v (vA (zX z)) p (some q) 0 (most + 1) q = some c → c < 2 ^ 31 := fun c hc => by have := sCs_lm hwfp hc; omega
    refine mx_bipush (v := (-9)) (by decide) dX9_costsAtMost_29 ?_
    refine mx_icmp_eq (tgt := 38) dX9_costsAtMost_31 (by decide) (fun c31 => ?_) (fun c31 => ?_)
    · skip
      refine mx_iconstN 0 dX9_costsAtMost_38 (by decide) ?_
      exact mx_iret dX9_costsAtMost_39 rfl (by decide) (⟨hd_f (by first | exact fun q => c9 q.1 | exact fun q => q.2 ((oI_iff hlt).mp c31)) (hDv.m n1 (by omega)) (dfr.of n1 (by omega)), rfl⟩)
    · skip
      refine mx_iconstN 1 dX9_costsAtMost_34 (by decide) ?_
      refine mx_goto (tgt := 39) dX9_costsAtMost_35 (by decide) ?_
      exact mx_iret dX9_costsAtMost_39 rfl (by decide) (⟨hd_t ⟨c9, fun q9 => c31 ((oI_iff hlt).mpr q9)⟩ (hDv.m n1 (by omega)) (dfr.of n1 (by omega)), rfl⟩)

set_option maxHeartbeats 1000000 in
set_option maxRecDepth 100000 in
theorem ct_goesAtMost (G : mx_G) (I : mx_I) (a : Nat) (z : Zs) (v : Gr) (hD : dW G I a z v) (p q most : Nat) (hp : p < 2 ^ 31) (hq : q < 2 ^ 31) (hm : most < 2 ^ 31) : mx_CTi yX9_goesAtMost mX9_goesAtMost 6 [.ref a, .int (nI p), .int (nI q), .int (nI most)] G I (fun rv I1 => hdQ I a v ((p < gP v ∧ q < gP v) ∧ (¬ gfm (aFin v (vA (zX z)) q).2.2.1 p = none ∧ (gfm (aFin v (vA (zX z)) q).2.2.1 p).getD 0 ≤ most)) rv I1) := by
  refine mx_start (k := 1) (by decide) rfl rfl (fun h => nomatch h) (Nat.le_of_ble_eq_true rfl) ?_
  show mx_V mX9_goesAtMost mx_S0 6 0 0 0 [some (.ref a), some (.int (nI p)), some (.int (nI q)), some (.int (nI most)), none] [] G I (fun rv Gz Iz => (fun rv I1 => hdQ I a v ((p < gP v ∧ q < gP v) ∧ (¬ gfm (aFin v (vA (zX z)) q).2.2.1 p = none ∧ (gfm (aFin v (vA (zX z)) q).2.2.1 p).getD 0 ≤ most)) rv I1) rv Iz ∧ Gz = G) (fun _ _ _ => False)
  obtain ⟨hW, hDv, hD24, hrd⟩ := id hD
  have hW0 := hW
  obtain ⟨⟨hSP, hsz, hpe⟩, hTx, hSt, hHi, hSl⟩ := hW
  have oSt : oST G (a + 37) := hSP.2.2.2.2.1.2
  obtain ⟨tg9, ⟨f0, oTx⟩, ⟨f1, oPt⟩, ⟨f2, oRd⟩, ⟨f3, -⟩, ⟨f4, oDr⟩, ⟨f5, oHi⟩, ⟨f6, gSl, lSl, ⟨rq0, oS0⟩, ⟨rq1, oS1⟩⟩, ⟨f7, gFi, lFi⟩, ⟨f8, oSe⟩, ⟨f9, oTr⟩, ⟨f10, oBp⟩⟩ := hSP
  have tg0 : mx_tg G (a + 1) = 17 := oTx.1
  have tg1 : mx_tg G (a + 3) = 12 := oPt.1
  have tg2 : mx_tg G (a + 8) = 13 := oRd.1
  have tg3 : mx_tg G (a + 37) = 16 := oSt.1
  have tg4 : mx_tg G (a + 42) = 16 := oDr.1
  have tg5 : mx_tg G (a + 47) = 11 := oHi.1
  have tg6 : mx_tg G (a + 131) = 15 := oSe.1
  have tg7 : mx_tg G (a + 136) = 15 := oTr.1
  have tg8 : mx_tg G (a + 141) = 10 := oBp.1
  obtain ⟨rT, tT, lT⟩ : mx_rf G (a + 1) 0 = a + 2 ∧ mx_tg G (a + 2) = 2 ∧ mx_ln G (a + 2) = 110 := oTx.2
  have oSt0 : oST G (a + 37) := oSt
  obtain ⟨-, ⟨rF, tF, lF⟩, ⟨rK, tK, lK⟩, ⟨rO, tO, lO⟩, ⟨rC, tC, lC⟩⟩ : mx_tg G (a + 37) = 16 ∧ (mx_rf G (a + 37) 2 = a + 38 ∧ mx_tg G (a + 38) = 1 ∧ mx_ln G (a + 38) = 25) ∧ (mx_rf G (a + 37) 3 = a + 39 ∧ mx_tg G (a + 39) = 1 ∧ mx_ln G (a + 39) = 25) ∧ (mx_rf G (a + 37) 4 = a + 40 ∧ mx_tg G (a + 40) = 1 ∧ mx_ln G (a + 40) = 25) ∧ (mx_rf G (a + 37) 5 = a + 41 ∧ mx_tg G (a + 41) = 1 ∧ mx_ln G (a + 41) = 25) := oSt
  have hSv : stN I (a + 37) (zG z) := hSt.1
  obtain ⟨⟨hP8, hN25, hvb⟩, hs0, hs1, hsF, hsK, hsT, hsC⟩ : stN I (a + 37) (zG z) := hSt.1
  have hN24 : gN (zG z) ≤ 24 := hSt.2.1.1
  have hTx0 := hTx
  obtain ⟨hn110, ht1, htc, htb⟩ : txN I (a + 1) (zN z) (zT z) := hTx
  have hDw : wfG v := hDv.1
  have hDP : gP v ≤ 8 := hDw.1
  obtain ⟨-, dr0, dr1, drF, drK, drT, drC⟩ := id hDv
  have tg42 : mx_tg G (a + 42) = 16 := oDr.1
  have rDC : mx_rf G (a + 42) 5 = a + 46 := oDr.2.2.2.2.1
  have tDC : mx_tg G (a + 46) = 1 := oDr.2.2.2.2.2.1
  have lDC : mx_ln G (a + 46) = 25 := oDr.2.2.2.2.2.2
  obtain ⟨pt, hpt⟩ : ∃ pt, mx_rf G (a + 37) 6 = pt := ⟨_, rfl⟩
  have he0 : env G I (a + 37) pt (zG z) (vA (zX z)) := by rw [← hpt]; exact hW0.env
  have hpd : pt = a + 3 ∨ a + 146 ≤ pt := by rw [← hpt]; exact hW0.2.2.1.2.2.1
  have hpd5 : pt + 5 ≤ mx_sz G := by rw [← hpt]; exact hW0.2.2.1.2.2.2.1
  have tgp : mx_tg G pt = 12 := he0.2.1.1
  obtain ⟨rch, tch, lch⟩ : mx_rf G pt 0 = pt + 1 ∧ mx_tg G (pt + 1) = 2 ∧ mx_ln G (pt + 1) = 40 := he0.2.1.2.1
  have hpn : ptN I pt (vA (zX z)) := he0.2.2.2.2
  have hwfp : wfP (vA (zX z)) := hpn.1
  have hwfg : wfG (zG z) := he0.2.2.2.1.1
  have hn40 : (zX z).2.1 ≤ 40 := hSt.2.1.2.1
  have hpz : I pt 1 = nI (zX z).2.1 := by
    rw [hpn.2.1, show pSz (vA (zX z)) = min (zX z).2.1 40 from (rdF_sz _ _).1, Nat.min_eq_left hn40]
  have hpl : I pt 2 = nI (pL (vA (zX z))) := hpn.2.2.1
  have hpc : ∀ i, i < (zX z).2.1 → I (pt + 1) i = nI ((zX z).2.2 i) := fun i hi => by
    have h := hpn.2.2.2.2.1 i (by rw [show pSz (vA (zX z)) = min (zX z).2.1 40 from (rdF_sz _ _).1, Nat.min_eq_left hn40]; exact hi)
    rw [h, show pCh (vA (zX z)) = (zX z).2.2 from (rdF_sz _ _).2]
  have hpc8 : ∀ i, i < (zX z).2.1 → (zX z).2.2 i < 256 := hSt.2.1.2.2.2
  have heD : env G I (a + 42) pt v (vA (zX z)) := by rw [← hpt]; exact denvW hW0 hrd hDv
  refine mx_aload_n (i := 0) (hi := rfl) (hl := rfl) (hd := dX9_goesAtMost_0) ?_
  refine mx_getR (ci := 9) (k := 4) (r := (a + 42)) dX9_goesAtMost_1 k_329 (by decide) rfl (by assumption) (by assumption) (by omega) ?_
  refine mx_iload_n (i := 1) (hi := rfl) (hl := rfl) (hd := dX9_goesAtMost_4) ?_
  refine mx_iload_n (i := 2) (hi := rfl) (hl := rfl) (hd := dX9_goesAtMost_5) ?_
  refine mx_callVp (ci := 6) (As := [.int (nI p), .int (nI q)]) (rest := []) dX9_goesAtMost_6 (ct_hasPeopleN G I (a + 42) v oDr hDv p q hp hq) km_X6_hasPeople rfl k_639 k_640 k_641 (by assumption) rfl rfl (Nat.le_of_ble_eq_true rfl) (by decide) ?_
  refine mx_ifB_ne 14 dX9_goesAtMost_9 (by decide) (fun c9 => ?_) (fun c9 => ?_)
  · skip
    refine mx_aload_n (i := 0) (hi := rfl) (hl := rfl) (hd := dX9_goesAtMost_14) ?_
    refine mx_getR (ci := 9) (k := 10) (r := (a + 141)) dX9_goesAtMost_15 k_335 (by decide) rfl (by assumption) (by assumption) (by omega) ?_
    refine mx_aload_n (i := 0) (hi := rfl) (hl := rfl) (hd := dX9_goesAtMost_18) ?_
    refine mx_getR (ci := 9) (k := 4) (r := (a + 42)) dX9_goesAtMost_19 k_329 (by decide) rfl (by assumption) (by assumption) (by omega) ?_
    refine mx_iload_n (i := 2) (hi := rfl) (hl := rfl) (hd := dX9_goesAtMost_22) ?_
    refine mx_callVi (ci := 0) (As := [.ref (a + 42), .int (nI q)]) (rest := []) dX9_goesAtMost_23 (ct_aimAt G I (a + 141) oBp (a + 42) pt _ _ heD (by omega) (pd_o hpd (by decide)) q c9.2) km_X0_aimAt rfl k_810 k_811 k_812 (by assumption) rfl rfl (Nat.le_of_ble_eq_true rfl) (by decide) (fun r1 I2 h2 => ?_)
    obtain ⟨e9, m1, n1⟩ := h2
    subst e9
    have hlt2 : ∀ z9, gfm (aFin v (vA (zX z)) q).2.2.1 p = some z9 → z9 < 2 ^ 31 := fun z9 hz => by have := gfm_lt hz; omega
    have hoI := oI_iff hlt2
    refine mx_aload_n (i := 0) (hi := rfl) (hl := rfl) (hd := dX9_goesAtMost_26) ?_
    refine mx_getR (ci := 9) (k := 10) (r := (a + 141)) dX9_goesAtMost_27 k_335 (by decide) rfl (by assumption) (by assumption) (by omega) ?_
    refine mx_iload_n (i := 1) (hi := rfl) (hl := rfl) (hd := dX9_goesAtMost_30) ?_
    refine mx_callVp (ci := 0) (As := [.int (nI p)]) (rest := []) dX9_goesAtMost_31 (ct_goingsFrom G I2 (a + 141) oBp _ m1 (aFin_B v (vA (zX z)) q).1 p (by omega)) km_X0_goingsFrom rfl k_835 k_836 k_837 (by assumption) rfl rfl (Nat.le_of_ble_eq_true rfl) (by decide) ?_
    refine mx_istoreE (i := 4) (ls' := [some (.ref a), some (.int (nI p)), some (.int (nI q)), some (.int (nI most)), some (.int (oI (gfm (aFin v (vA (zX z)) q).2.2.1 p)))]) (hd := dX9_goesAtMost_34) (hn := by decide) (hok := rfl) (hls := rfl) ?_
    refine mx_iload (i := 4) (hl := rfl) (hd := dX9_goesAtMost_36) ?_
    refine mx_bipush (v := (-9)) (by decide) dX9_goesAtMost_38 ?_
    refine mx_icmp_eq (tgt := 53) dX9_goesAtMost_40 (by decide) (fun c40 => ?_) (fun c40 => ?_)
    · skip
      refine mx_iconstN 0 dX9_goesAtMost_53 (by decide) ?_
      exact mx_iret dX9_goesAtMost_54 rfl (by decide) (⟨hd_f (by first | exact fun q => q.2.1 (hoI.mp c40) | exact fun q => gfm_gt ((oI_lt_nat hlt2 most).mp c46) q.2.2) (hDv.m n1 (by omega)) (dfr.of n1 (by omega)), rfl⟩)
    · skip
      refine mx_iload (i := 4) (hl := rfl) (hd := dX9_goesAtMost_43) ?_
      refine mx_iload_n (i := 3) (hi := rfl) (hl := rfl) (hd := dX9_goesAtMost_45) ?_
      refine mx_cmpRN_gt 53 dX9_goesAtMost_46 (by decide) (by omega) (fun c46 => ?_) (fun c46 => ?_)
      · skip
        refine mx_iconstN 0 dX9_goesAtMost_53 (by decide) ?_
        exact mx_iret dX9_goesAtMost_54 rfl (by decide) (⟨hd_f (by first | exact fun q => q.2.1 (hoI.mp c40) | exact fun q => gfm_gt ((oI_lt_nat hlt2 most).mp c46) q.2.2) (hDv.m n1 (by omega)) (dfr.of n1 (by omega)), rfl⟩)
      · skip
        refine mx_iconstN 1 dX9_goesAtMost_49 (by decide) ?_
        refine mx_goto (tgt := 54) dX9_goesAtMost_50 (by decide) ?_
        exact mx_iret dX9_goesAtMost_54 rfl (by decide) (⟨hd_t ⟨c9, fun q9 => c40 (hoI.mpr q9), gfm_ge (fun q9 => c40 (hoI.mpr q9)) (fun q9 => c46 ((oI_lt_nat hlt2 most).mpr q9))⟩ (hDv.m n1 (by omega)) (dfr.of n1 (by omega)), rfl⟩)
  · skip
    refine mx_iconstN 0 dX9_goesAtMost_12 (by decide) ?_
    exact mx_iret dX9_goesAtMost_13 rfl (by decide) (⟨hd_f (by first | exact fun q => c9 q.1) hDv (dfr.rf a I), rfl⟩)

set_option maxHeartbeats 1000000 in
set_option maxRecDepth 100000 in
theorem ct_reachesAtLeast (G : mx_G) (I : mx_I) (a : Nat) (z : Zs) (v : Gr) (hD : dW G I a z v) (p least : Nat) (hp : p < 2 ^ 31) (hm : least < 2 ^ 31) : mx_CTi yX9_reachesAtLeast mX9_reachesAtLeast 6 [.ref a, .int (nI p), .int (nI least)] G I (fun rv I1 => hdQ I a v (p < gP v ∧ least ≤ onM (pfB (sCs v (vA (zX z)) p none 0 1512) (gP v)) 24) rv I1) := by
  refine mx_start (k := 0) (by decide) rfl rfl (fun h => nomatch h) (Nat.le_of_ble_eq_true rfl) ?_
  show mx_V mX9_reachesAtLeast mx_S0 6 0 0 0 [some (.ref a), some (.int (nI p)), some (.int (nI least))] [] G I (fun rv Gz Iz => (fun rv I1 => hdQ I a v (p < gP v ∧ least ≤ onM (pfB (sCs v (vA (zX z)) p none 0 1512) (gP v)) 24) rv I1) rv Iz ∧ Gz = G) (fun _ _ _ => False)
  obtain ⟨hW, hDv, hD24, hrd⟩ := id hD
  have hW0 := hW
  obtain ⟨⟨hSP, hsz, hpe⟩, hTx, hSt, hHi, hSl⟩ := hW
  have oSt : oST G (a + 37) := hSP.2.2.2.2.1.2
  obtain ⟨tg9, ⟨f0, oTx⟩, ⟨f1, oPt⟩, ⟨f2, oRd⟩, ⟨f3, -⟩, ⟨f4, oDr⟩, ⟨f5, oHi⟩, ⟨f6, gSl, lSl, ⟨rq0, oS0⟩, ⟨rq1, oS1⟩⟩, ⟨f7, gFi, lFi⟩, ⟨f8, oSe⟩, ⟨f9, oTr⟩, ⟨f10, oBp⟩⟩ := hSP
  have tg0 : mx_tg G (a + 1) = 17 := oTx.1
  have tg1 : mx_tg G (a + 3) = 12 := oPt.1
  have tg2 : mx_tg G (a + 8) = 13 := oRd.1
  have tg3 : mx_tg G (a + 37) = 16 := oSt.1
  have tg4 : mx_tg G (a + 42) = 16 := oDr.1
  have tg5 : mx_tg G (a + 47) = 11 := oHi.1
  have tg6 : mx_tg G (a + 131) = 15 := oSe.1
  have tg7 : mx_tg G (a + 136) = 15 := oTr.1
  have tg8 : mx_tg G (a + 141) = 10 := oBp.1
  obtain ⟨rT, tT, lT⟩ : mx_rf G (a + 1) 0 = a + 2 ∧ mx_tg G (a + 2) = 2 ∧ mx_ln G (a + 2) = 110 := oTx.2
  have oSt0 : oST G (a + 37) := oSt
  obtain ⟨-, ⟨rF, tF, lF⟩, ⟨rK, tK, lK⟩, ⟨rO, tO, lO⟩, ⟨rC, tC, lC⟩⟩ : mx_tg G (a + 37) = 16 ∧ (mx_rf G (a + 37) 2 = a + 38 ∧ mx_tg G (a + 38) = 1 ∧ mx_ln G (a + 38) = 25) ∧ (mx_rf G (a + 37) 3 = a + 39 ∧ mx_tg G (a + 39) = 1 ∧ mx_ln G (a + 39) = 25) ∧ (mx_rf G (a + 37) 4 = a + 40 ∧ mx_tg G (a + 40) = 1 ∧ mx_ln G (a + 40) = 25) ∧ (mx_rf G (a + 37) 5 = a + 41 ∧ mx_tg G (a + 41) = 1 ∧ mx_ln G (a + 41) = 25) := oSt
  have hSv : stN I (a + 37) (zG z) := hSt.1
  obtain ⟨⟨hP8, hN25, hvb⟩, hs0, hs1, hsF, hsK, hsT, hsC⟩ : stN I (a + 37) (zG z) := hSt.1
  have hN24 : gN (zG z) ≤ 24 := hSt.2.1.1
  have hTx0 := hTx
  obtain ⟨hn110, ht1, htc, htb⟩ : txN I (a + 1) (zN z) (zT z) := hTx
  have hDw : wfG v := hDv.1
  have hDP : gP v ≤ 8 := hDw.1
  obtain ⟨-, dr0, dr1, drF, drK, drT, drC⟩ := id hDv
  have tg42 : mx_tg G (a + 42) = 16 := oDr.1
  have rDC : mx_rf G (a + 42) 5 = a + 46 := oDr.2.2.2.2.1
  have tDC : mx_tg G (a + 46) = 1 := oDr.2.2.2.2.2.1
  have lDC : mx_ln G (a + 46) = 25 := oDr.2.2.2.2.2.2
  obtain ⟨pt, hpt⟩ : ∃ pt, mx_rf G (a + 37) 6 = pt := ⟨_, rfl⟩
  have he0 : env G I (a + 37) pt (zG z) (vA (zX z)) := by rw [← hpt]; exact hW0.env
  have hpd : pt = a + 3 ∨ a + 146 ≤ pt := by rw [← hpt]; exact hW0.2.2.1.2.2.1
  have hpd5 : pt + 5 ≤ mx_sz G := by rw [← hpt]; exact hW0.2.2.1.2.2.2.1
  have tgp : mx_tg G pt = 12 := he0.2.1.1
  obtain ⟨rch, tch, lch⟩ : mx_rf G pt 0 = pt + 1 ∧ mx_tg G (pt + 1) = 2 ∧ mx_ln G (pt + 1) = 40 := he0.2.1.2.1
  have hpn : ptN I pt (vA (zX z)) := he0.2.2.2.2
  have hwfp : wfP (vA (zX z)) := hpn.1
  have hwfg : wfG (zG z) := he0.2.2.2.1.1
  have hn40 : (zX z).2.1 ≤ 40 := hSt.2.1.2.1
  have hpz : I pt 1 = nI (zX z).2.1 := by
    rw [hpn.2.1, show pSz (vA (zX z)) = min (zX z).2.1 40 from (rdF_sz _ _).1, Nat.min_eq_left hn40]
  have hpl : I pt 2 = nI (pL (vA (zX z))) := hpn.2.2.1
  have hpc : ∀ i, i < (zX z).2.1 → I (pt + 1) i = nI ((zX z).2.2 i) := fun i hi => by
    have h := hpn.2.2.2.2.1 i (by rw [show pSz (vA (zX z)) = min (zX z).2.1 40 from (rdF_sz _ _).1, Nat.min_eq_left hn40]; exact hi)
    rw [h, show pCh (vA (zX z)) = (zX z).2.2 from (rdF_sz _ _).2]
  have hpc8 : ∀ i, i < (zX z).2.1 → (zX z).2.2 i < 256 := hSt.2.1.2.2.2
  have heD : env G I (a + 42) pt v (vA (zX z)) := by rw [← hpt]; exact denvW hW0 hrd hDv
  refine mx_aload_n (i := 0) (hi := rfl) (hl := rfl) (hd := dX9_reachesAtLeast_0) ?_
  refine mx_getR (ci := 9) (k := 4) (r := (a + 42)) dX9_reachesAtLeast_1 k_329 (by decide) rfl (by assumption) (by assumption) (by omega) ?_
  refine mx_iload_n (i := 1) (hi := rfl) (hl := rfl) (hd := dX9_reachesAtLeast_4) ?_
  refine mx_callVp (ci := 6) (As := [.int (nI p)]) (rest := []) dX9_reachesAtLeast_5 (ct_hasPersonN G I (a + 42) v oDr hDv p hp) km_X6_hasPerson rfl k_615 k_390 k_391 (by assumption) rfl rfl (Nat.le_of_ble_eq_true rfl) (by decide) ?_
  refine mx_ifB_eq 34 dX9_reachesAtLeast_8 (by decide) (fun c8 => ?_) (fun c8 => ?_)
  · skip
    refine mx_iconstN 0 dX9_reachesAtLeast_34 (by decide) ?_
    exact mx_iret dX9_reachesAtLeast_35 rfl (by decide) (⟨hd_f (by first | exact fun q => c8 q.1 | exact fun q => absurd q.2 (by omega)) hDv (dfr.rf a I), rfl⟩)
  · skip
    refine mx_aload_n (i := 0) (hi := rfl) (hl := rfl) (hd := dX9_reachesAtLeast_11) ?_
    refine mx_getR (ci := 9) (k := 8) (r := (a + 131)) dX9_reachesAtLeast_12 k_333 (by decide) rfl (by assumption) (by assumption) (by omega) ?_
    refine mx_aload_n (i := 0) (hi := rfl) (hl := rfl) (hd := dX9_reachesAtLeast_15) ?_
    refine mx_getR (ci := 9) (k := 4) (r := (a + 42)) dX9_reachesAtLeast_16 k_329 (by decide) rfl (by assumption) (by assumption) (by omega) ?_
    refine mx_iload_n (i := 1) (hi := rfl) (hl := rfl) (hd := dX9_reachesAtLeast_19) ?_
    refine mx_callVi (ci := 5) (As := [.ref (a + 42), .int (nI p)]) (rest := []) dX9_reachesAtLeast_20 (ct_peopleFrom G I (a + 131) oSe (a + 42) pt _ _ heD (by omega) (pd_o hpd (by decide)) p c8) km_X5_peopleFrom rfl k_620 k_621 k_622 (by assumption) rfl rfl (Nat.le_of_ble_eq_true rfl) (by decide) (fun r1 I2 h2 => ?_)
    obtain ⟨e9, n1⟩ := h2
    subst e9
    have hpf : pfB (sCs v (vA (zX z)) p none 0 1512) (gP v) < 256 := Nat.lt_of_lt_of_le (pfB_lt _ _) (Nat.pow_le_pow_right (by decide) hDP : _ ≤ 2 ^ 8)
    refine mx_callSp (As := [.int (nI (pfB (sCs v (vA (zX z)) p none 0 1512) (gP v)))]) (rest := []) dX9_reachesAtLeast_23 (ct_bitCount G I2 (pfB (sCs v (vA (zX z)) p none 0 1512) (gP v)) hpf) km_J6_bitCount_0f7a4 rfl k_970 k_971 rfl rfl (Nat.le_of_ble_eq_true rfl) (by decide) ?_
    refine mx_iload_n (i := 2) (hi := rfl) (hl := rfl) (hd := dX9_reachesAtLeast_26) ?_
    refine mx_cmpN_lt 34 dX9_reachesAtLeast_27 (by decide) (Nat.lt_of_le_of_lt (onM_le _ _) (by decide)) (by omega) (fun c27 => ?_) (fun c27 => ?_)
    · skip
      refine mx_iconstN 0 dX9_reachesAtLeast_34 (by decide) ?_
      exact mx_iret dX9_reachesAtLeast_35 rfl (by decide) (⟨hd_f (by first | exact fun q => c8 q.1 | exact fun q => absurd q.2 (by omega)) (hDv.m n1 (by omega)) (dfr.of n1 (by omega)), rfl⟩)
    · skip
      refine mx_iconstN 1 dX9_reachesAtLeast_30 (by decide) ?_
      refine mx_goto (tgt := 35) dX9_reachesAtLeast_31 (by decide) ?_
      exact mx_iret dX9_reachesAtLeast_35 rfl (by decide) (⟨hd_t ⟨c8, by omega⟩ (hDv.m n1 (by omega)) (dfr.of n1 (by omega)), rfl⟩)

set_option maxHeartbeats 1000000 in
set_option maxRecDepth 100000 in
theorem ct_needsStep (G : mx_G) (I : mx_I) (a : Nat) (z : Zs) (v : Gr) (hD : dW G I a z v) (s p q : Nat) (hs : s < 2 ^ 31) (hp : p < 2 ^ 31) (hq : q < 2 ^ 31) : mx_CTi yX9_needsStep mX9_needsStep 6 [.ref a, .int (nI s), .int (nI p), .int (nI q)] G I (fun rv I1 => hdQ I a v ((s < gN v ∧ p < gP v ∧ q < gP v) ∧ (¬ sCs v (vA (zX z)) p (some q) 0 1512 q = none ∧ sCs v (vA (zX z)) p (some q) (2 ^ s) 1512 q = none)) rv I1) := by
  refine mx_start (k := 0) (by decide) rfl rfl (fun h => nomatch h) (Nat.le_of_ble_eq_true rfl) ?_
  show mx_V mX9_needsStep mx_S0 6 0 0 0 [some (.ref a), some (.int (nI s)), some (.int (nI p)), some (.int (nI q))] [] G I (fun rv Gz Iz => (fun rv I1 => hdQ I a v ((s < gN v ∧ p < gP v ∧ q < gP v) ∧ (¬ sCs v (vA (zX z)) p (some q) 0 1512 q = none ∧ sCs v (vA (zX z)) p (some q) (2 ^ s) 1512 q = none)) rv I1) rv Iz ∧ Gz = G) (fun _ _ _ => False)
  obtain ⟨hW, hDv, hD24, hrd⟩ := id hD
  have hW0 := hW
  obtain ⟨⟨hSP, hsz, hpe⟩, hTx, hSt, hHi, hSl⟩ := hW
  have oSt : oST G (a + 37) := hSP.2.2.2.2.1.2
  obtain ⟨tg9, ⟨f0, oTx⟩, ⟨f1, oPt⟩, ⟨f2, oRd⟩, ⟨f3, -⟩, ⟨f4, oDr⟩, ⟨f5, oHi⟩, ⟨f6, gSl, lSl, ⟨rq0, oS0⟩, ⟨rq1, oS1⟩⟩, ⟨f7, gFi, lFi⟩, ⟨f8, oSe⟩, ⟨f9, oTr⟩, ⟨f10, oBp⟩⟩ := hSP
  have tg0 : mx_tg G (a + 1) = 17 := oTx.1
  have tg1 : mx_tg G (a + 3) = 12 := oPt.1
  have tg2 : mx_tg G (a + 8) = 13 := oRd.1
  have tg3 : mx_tg G (a + 37) = 16 := oSt.1
  have tg4 : mx_tg G (a + 42) = 16 := oDr.1
  have tg5 : mx_tg G (a + 47) = 11 := oHi.1
  have tg6 : mx_tg G (a + 131) = 15 := oSe.1
  have tg7 : mx_tg G (a + 136) = 15 := oTr.1
  have tg8 : mx_tg G (a + 141) = 10 := oBp.1
  obtain ⟨rT, tT, lT⟩ : mx_rf G (a + 1) 0 = a + 2 ∧ mx_tg G (a + 2) = 2 ∧ mx_ln G (a + 2) = 110 := oTx.2
  have oSt0 : oST G (a + 37) := oSt
  obtain ⟨-, ⟨rF, tF, lF⟩, ⟨rK, tK, lK⟩, ⟨rO, tO, lO⟩, ⟨rC, tC, lC⟩⟩ : mx_tg G (a + 37) = 16 ∧ (mx_rf G (a + 37) 2 = a + 38 ∧ mx_tg G (a + 38) = 1 ∧ mx_ln G (a + 38) = 25) ∧ (mx_rf G (a + 37) 3 = a + 39 ∧ mx_tg G (a + 39) = 1 ∧ mx_ln G (a + 39) = 25) ∧ (mx_rf G (a + 37) 4 = a + 40 ∧ mx_tg G (a + 40) = 1 ∧ mx_ln G (a + 40) = 25) ∧ (mx_rf G (a + 37) 5 = a + 41 ∧ mx_tg G (a + 41) = 1 ∧ mx_ln G (a + 41) = 25) := oSt
  have hSv : stN I (a + 37) (zG z) := hSt.1
  obtain ⟨⟨hP8, hN25, hvb⟩, hs0, hs1, hsF, hsK, hsT, hsC⟩ : stN I (a + 37) (zG z) := hSt.1
  have hN24 : gN (zG z) ≤ 24 := hSt.2.1.1
  have hTx0 := hTx
  obtain ⟨hn110, ht1, htc, htb⟩ : txN I (a + 1) (zN z) (zT z) := hTx
  have hDw : wfG v := hDv.1
  have hDP : gP v ≤ 8 := hDw.1
  obtain ⟨-, dr0, dr1, drF, drK, drT, drC⟩ := id hDv
  have tg42 : mx_tg G (a + 42) = 16 := oDr.1
  have rDC : mx_rf G (a + 42) 5 = a + 46 := oDr.2.2.2.2.1
  have tDC : mx_tg G (a + 46) = 1 := oDr.2.2.2.2.2.1
  have lDC : mx_ln G (a + 46) = 25 := oDr.2.2.2.2.2.2
  obtain ⟨pt, hpt⟩ : ∃ pt, mx_rf G (a + 37) 6 = pt := ⟨_, rfl⟩
  have he0 : env G I (a + 37) pt (zG z) (vA (zX z)) := by rw [← hpt]; exact hW0.env
  have hpd : pt = a + 3 ∨ a + 146 ≤ pt := by rw [← hpt]; exact hW0.2.2.1.2.2.1
  have hpd5 : pt + 5 ≤ mx_sz G := by rw [← hpt]; exact hW0.2.2.1.2.2.2.1
  have tgp : mx_tg G pt = 12 := he0.2.1.1
  obtain ⟨rch, tch, lch⟩ : mx_rf G pt 0 = pt + 1 ∧ mx_tg G (pt + 1) = 2 ∧ mx_ln G (pt + 1) = 40 := he0.2.1.2.1
  have hpn : ptN I pt (vA (zX z)) := he0.2.2.2.2
  have hwfp : wfP (vA (zX z)) := hpn.1
  have hwfg : wfG (zG z) := he0.2.2.2.1.1
  have hn40 : (zX z).2.1 ≤ 40 := hSt.2.1.2.1
  have hpz : I pt 1 = nI (zX z).2.1 := by
    rw [hpn.2.1, show pSz (vA (zX z)) = min (zX z).2.1 40 from (rdF_sz _ _).1, Nat.min_eq_left hn40]
  have hpl : I pt 2 = nI (pL (vA (zX z))) := hpn.2.2.1
  have hpc : ∀ i, i < (zX z).2.1 → I (pt + 1) i = nI ((zX z).2.2 i) := fun i hi => by
    have h := hpn.2.2.2.2.1 i (by rw [show pSz (vA (zX z)) = min (zX z).2.1 40 from (rdF_sz _ _).1, Nat.min_eq_left hn40]; exact hi)
    rw [h, show pCh (vA (zX z)) = (zX z).2.2 from (rdF_sz _ _).2]
  have hpc8 : ∀ i, i < (zX z).2.1 → (zX z).2.2 i < 256 := hSt.2.1.2.2.2
  have heD : env G I (a + 42) pt v (vA (zX z)) := by rw [← hpt]; exact denvW hW0 hrd hDv
  refine mx_aload_n (i := 0) (hi := rfl) (hl := rfl) (hd := dX9_needsStep_0) ?_
  refine mx_getR (ci := 9) (k := 4) (r := (a + 42)) dX9_needsStep_1 k_329 (by decide) rfl (by assumption) (by assumption) (by omega) ?_
  refine mx_iload_n (i := 1) (hi := rfl) (hl := rfl) (hd := dX9_needsStep_4) ?_
  refine mx_callVp (ci := 6) (As := [.int (nI s)]) (rest := []) dX9_needsStep_5 (ct_hasStepN G I (a + 42) v oDr hDv s hs) km_X6_hasStep rfl k_604 k_605 k_606 (by assumption) rfl rfl (Nat.le_of_ble_eq_true rfl) (by decide) ?_
  refine mx_ifB_eq 63 dX9_needsStep_8 (by decide) (fun c8 => ?_) (fun c8 => ?_)
  · skip
    refine mx_iconstN 0 dX9_needsStep_63 (by decide) ?_
    exact mx_iret dX9_needsStep_64 rfl (by decide) (⟨hd_f (by first | exact fun q => c8 q.1.1 | exact fun q => c20 q.1.2 | exact fun q => c37 q.2.1 | exact fun q => c56 q.2.2) hDv (dfr.rf a I), rfl⟩)
  · skip
    refine mx_aload_n (i := 0) (hi := rfl) (hl := rfl) (hd := dX9_needsStep_11) ?_
    refine mx_getR (ci := 9) (k := 4) (r := (a + 42)) dX9_needsStep_12 k_329 (by decide) rfl (by assumption) (by assumption) (by omega) ?_
    refine mx_iload_n (i := 2) (hi := rfl) (hl := rfl) (hd := dX9_needsStep_15) ?_
    refine mx_iload_n (i := 3) (hi := rfl) (hl := rfl) (hd := dX9_needsStep_16) ?_
    refine mx_callVp (ci := 6) (As := [.int (nI p), .int (nI q)]) (rest := []) dX9_needsStep_17 (ct_hasPeopleN G I (a + 42) v oDr hDv p q hp hq) km_X6_hasPeople rfl k_639 k_640 k_641 (by assumption) rfl rfl (Nat.le_of_ble_eq_true rfl) (by decide) ?_
    refine mx_ifB_eq 63 dX9_needsStep_20 (by decide) (fun c20 => ?_) (fun c20 => ?_)
    · skip
      refine mx_iconstN 0 dX9_needsStep_63 (by decide) ?_
      exact mx_iret dX9_needsStep_64 rfl (by decide) (⟨hd_f (by first | exact fun q => c8 q.1.1 | exact fun q => c20 q.1.2 | exact fun q => c37 q.2.1 | exact fun q => c56 q.2.2) hDv (dfr.rf a I), rfl⟩)
    · skip
      refine mx_aload_n (i := 0) (hi := rfl) (hl := rfl) (hd := dX9_needsStep_23) ?_
      refine mx_getR (ci := 9) (k := 8) (r := (a + 131)) dX9_needsStep_24 k_333 (by decide) rfl (by assumption) (by assumption) (by omega) ?_
      refine mx_aload_n (i := 0) (hi := rfl) (hl := rfl) (hd := dX9_needsStep_27) ?_
      refine mx_getR (ci := 9) (k := 4) (r := (a + 42)) dX9_needsStep_28 k_329 (by decide) rfl (by assumption) (by assumption) (by omega) ?_
      refine mx_iload_n (i := 2) (hi := rfl) (hl := rfl) (hd := dX9_needsStep_31) ?_
      refine mx_iload_n (i := 3) (hi := rfl) (hl := rfl) (hd := dX9_needsStep_32) ?_
      refine mx_iconstN 0 dX9_needsStep_33 (by decide) ?_
      refine mx_callVi (ci := 5) (As := [.ref (a + 42), .int (nI p), .int (nI q), .int (nI 0)]) (rest := []) dX9_needsStep_34 (ct_finds G I (a + 131) oSe (a + 42) pt _ _ heD (by omega) (pd_o hpd (by decide)) p q 0 c20.1 c20.2 (by decide)) km_X5_finds rfl k_893 k_629 k_630 (by assumption) rfl rfl (Nat.le_of_ble_eq_true rfl) (by decide) (fun r1 I2 h2 => ?_)
      obtain ⟨e9, n1⟩ := h2
      subst e9
      refine mx_ifB_eq 63 dX9_needsStep_37 (by decide) (fun c37 => ?_) (fun c37 => ?_)
      · skip
        refine mx_iconstN 0 dX9_needsStep_63 (by decide) ?_
        exact mx_iret dX9_needsStep_64 rfl (by decide) (⟨hd_f (by first | exact fun q => c8 q.1.1 | exact fun q => c20 q.1.2 | exact fun q => c37 q.2.1 | exact fun q => c56 q.2.2) (hDv.m n1 (by omega)) (dfr.of n1 (by omega)), rfl⟩)
      · skip
        refine mx_aload_n (i := 0) (hi := rfl) (hl := rfl) (hd := dX9_needsStep_40) ?_
        refine mx_getR (ci := 9) (k := 8) (r := (a + 131)) dX9_needsStep_41 k_333 (by decide) rfl (by assumption) (by assumption) (by omega) ?_
        refine mx_aload_n (i := 0) (hi := rfl) (hl := rfl) (hd := dX9_needsStep_44) ?_
        refine mx_getR (ci := 9) (k := 4) (r := (a + 42)) dX9_needsStep_45 k_329 (by decide) rfl (by assumption) (by assumption) (by omega) ?_
        refine mx_iload_n (i := 2) (hi := rfl) (hl := rfl) (hd := dX9_needsStep_48) ?_
        refine mx_iload_n (i := 3) (hi := rfl) (hl := rfl) (hd := dX9_needsStep_49) ?_
        refine mx_iconstN 1 dX9_needsStep_50 (by decide) ?_
        refine mx_iload_n (i := 1) (hi := rfl) (hl := rfl) (hd := dX9_needsStep_51) ?_
        refine mx_ishl1N dX9_needsStep_52 (by omega) ?_
        refine mx_callVi (ci := 5) (As := [.ref (a + 42), .int (nI p), .int (nI q), .int (nI (2 ^ s))]) (rest := []) dX9_needsStep_53 (ct_finds G I2 (a + 131) oSe (a + 42) pt _ _ (heD.fr n1 (by omega) (pd_o hpd (by decide))) (by omega) (pd_o hpd (by decide)) p q (2 ^ s) c20.1 c20.2 (Nat.pow_lt_pow_right (by decide) (by omega))) km_X5_finds rfl k_893 k_629 k_630 (by assumption) rfl rfl (Nat.le_of_ble_eq_true rfl) (by decide) (fun r3 I3 h4 => ?_)
        obtain ⟨e9, n2⟩ := h4
        subst e9
        refine mx_ifB_ne 63 dX9_needsStep_56 (by decide) (fun c56 => ?_) (fun c56 => ?_)
        · skip
          refine mx_iconstN 0 dX9_needsStep_63 (by decide) ?_
          exact mx_iret dX9_needsStep_64 rfl (by decide) (⟨hd_f (by first | exact fun q => c8 q.1.1 | exact fun q => c20 q.1.2 | exact fun q => c37 q.2.1 | exact fun q => c56 q.2.2) ((hDv.m n1 (by omega)).m n2 (by omega)) ((dfr.of n1 (by omega)).tr (dfr.of n2 (by omega))), rfl⟩)
        · skip
          refine mx_iconstN 1 dX9_needsStep_59 (by decide) ?_
          refine mx_goto (tgt := 64) dX9_needsStep_60 (by decide) ?_
          exact mx_iret dX9_needsStep_64 rfl (by decide) (⟨hd_t ⟨⟨c8, c20⟩, c37, Classical.not_not.mp c56⟩ ((hDv.m n1 (by omega)).m n2 (by omega)) ((dfr.of n1 (by omega)).tr (dfr.of n2 (by omega))), rfl⟩)

/-- what a command leaves, whether it changes or asks: the truth that it says, and the draft behind it -/
def scQ (I : mx_I) (a : Nat) (v : Gr) (A : Pa) (ho ca cb cc cd : Nat) (rv : Option Value) (I1 : mx_I) : Prop := ∃ b9 : Bool, rv = some (.int (mx_b (decide (b9 = true)))) ∧ (b9 = true ↔ ((cgG v ho ca cb cc cd).isSome = true ∨ hdC v A ho ca cb cc cd)) ∧ stN I1 (a + 42) (cmV v ho ca cb cc cd) ∧ gN (cmV v ho ca cb cc cd) ≤ 24 ∧ dfr a I I1
theorem sc_c {I I1 : mx_I} {a : Nat} {v : Gr} {A : Pa} {ho ca cb cc cd : Nat} {rv : Option Value} (h : ho < 6) (q : cgQ I a v (cgG v ho ca cb cc cd) rv I1) : scQ I a v A ho ca cb cc cd rv I1 := by
  obtain ⟨q1, q2, q3, q4⟩ := q
  exact ⟨(cgG v ho ca cb cc cd).isSome, q1, ⟨Or.inl, fun z => z.elim id (fun z9 => absurd z9 (hdC_0 h))⟩, q2, q3, q4⟩
theorem sc_h {I I1 : mx_I} {a : Nat} {v : Gr} {A : Pa} {ho ca cb cc cd : Nat} {rv : Option Value} (e : cgG v ho ca cb cc cd = none) (h24 : gN v ≤ 24) (q : hdQ I a v (hdC v A ho ca cb cc cd) rv I1) : scQ I a v A ho ca cb cc cd rv I1 := by
  obtain ⟨b9, q1, q2, q3, q4⟩ := q
  have ev : cmV v ho ca cb cc cd = v := by unfold cmV; rw [e]; rfl
  refine ⟨b9, q1, ?_, ?_, ?_, q4⟩
  · rw [e, q2]
    exact ⟨Or.inr, fun z => z.elim (fun z9 => nomatch z9) id⟩
  · rw [ev]; exact q3
  · rw [ev]; exact h24

set_option maxHeartbeats 1000000 in
set_option maxRecDepth 100000 in
theorem ct_succeeds (G : mx_G) (I : mx_I) (a : Nat) (z : Zs) (v : Gr) (hD : dW G I a z v) (gr ho ca cb cc cd : Nat) (hgr : gr < 100000) (eho : gr / 10000 = ho) (eca : gr / 1000 % 10 = ca) (ecb : gr / 100 % 10 = cb) (ecc : gr / 10 % 10 = cc) (ecd : gr % 10 = cd) : mx_CTi yX9_succeeds mX9_succeeds 7 [.ref a, .int (nI gr)] G I (fun rv I1 => scQ I a v (vA (zX z)) ho ca cb cc cd rv I1) := by
  refine mx_start (k := 5) (by decide) rfl rfl (fun h => nomatch h) (Nat.le_of_ble_eq_true rfl) ?_
  show mx_V mX9_succeeds mx_S0 7 0 0 0 [some (.ref a), some (.int (nI gr)), none, none, none, none, none] [] G I (fun rv Gz Iz => (fun rv I1 => scQ I a v (vA (zX z)) ho ca cb cc cd rv I1) rv Iz ∧ Gz = G) (fun _ _ _ => False)
  obtain ⟨hW, hDv, hD24, hrd⟩ := id hD
  have hW0 := hW
  obtain ⟨⟨hSP, hsz, hpe⟩, hTx, hSt, hHi, hSl⟩ := hW
  have oSt : oST G (a + 37) := hSP.2.2.2.2.1.2
  obtain ⟨tg9, ⟨f0, oTx⟩, ⟨f1, oPt⟩, ⟨f2, oRd⟩, ⟨f3, -⟩, ⟨f4, oDr⟩, ⟨f5, oHi⟩, ⟨f6, gSl, lSl, ⟨rq0, oS0⟩, ⟨rq1, oS1⟩⟩, ⟨f7, gFi, lFi⟩, ⟨f8, oSe⟩, ⟨f9, oTr⟩, ⟨f10, oBp⟩⟩ := hSP
  have tg0 : mx_tg G (a + 1) = 17 := oTx.1
  have tg1 : mx_tg G (a + 3) = 12 := oPt.1
  have tg2 : mx_tg G (a + 8) = 13 := oRd.1
  have tg3 : mx_tg G (a + 37) = 16 := oSt.1
  have tg4 : mx_tg G (a + 42) = 16 := oDr.1
  have tg5 : mx_tg G (a + 47) = 11 := oHi.1
  have tg6 : mx_tg G (a + 131) = 15 := oSe.1
  have tg7 : mx_tg G (a + 136) = 15 := oTr.1
  have tg8 : mx_tg G (a + 141) = 10 := oBp.1
  obtain ⟨rT, tT, lT⟩ : mx_rf G (a + 1) 0 = a + 2 ∧ mx_tg G (a + 2) = 2 ∧ mx_ln G (a + 2) = 110 := oTx.2
  have oSt0 : oST G (a + 37) := oSt
  obtain ⟨-, ⟨rF, tF, lF⟩, ⟨rK, tK, lK⟩, ⟨rO, tO, lO⟩, ⟨rC, tC, lC⟩⟩ : mx_tg G (a + 37) = 16 ∧ (mx_rf G (a + 37) 2 = a + 38 ∧ mx_tg G (a + 38) = 1 ∧ mx_ln G (a + 38) = 25) ∧ (mx_rf G (a + 37) 3 = a + 39 ∧ mx_tg G (a + 39) = 1 ∧ mx_ln G (a + 39) = 25) ∧ (mx_rf G (a + 37) 4 = a + 40 ∧ mx_tg G (a + 40) = 1 ∧ mx_ln G (a + 40) = 25) ∧ (mx_rf G (a + 37) 5 = a + 41 ∧ mx_tg G (a + 41) = 1 ∧ mx_ln G (a + 41) = 25) := oSt
  have hSv : stN I (a + 37) (zG z) := hSt.1
  obtain ⟨⟨hP8, hN25, hvb⟩, hs0, hs1, hsF, hsK, hsT, hsC⟩ : stN I (a + 37) (zG z) := hSt.1
  have hN24 : gN (zG z) ≤ 24 := hSt.2.1.1
  have hTx0 := hTx
  obtain ⟨hn110, ht1, htc, htb⟩ : txN I (a + 1) (zN z) (zT z) := hTx
  have hDw : wfG v := hDv.1
  have hDP : gP v ≤ 8 := hDw.1
  obtain ⟨-, dr0, dr1, drF, drK, drT, drC⟩ := id hDv
  have tg42 : mx_tg G (a + 42) = 16 := oDr.1
  have rDC : mx_rf G (a + 42) 5 = a + 46 := oDr.2.2.2.2.1
  have tDC : mx_tg G (a + 46) = 1 := oDr.2.2.2.2.2.1
  have lDC : mx_ln G (a + 46) = 25 := oDr.2.2.2.2.2.2
  have hca : ca ≤ 9 := by omega
  have hcb : cb ≤ 9 := by omega
  have hcc : cc ≤ 9 := by omega
  have hcd : cd ≤ 9 := by omega
  have hho : ho ≤ 9 := by omega
  refine mx_iload_n (i := 1) (hi := rfl) (hl := rfl) (hd := dX9_succeeds_0) ?_
  refine mx_sipushN 1000 dX9_succeeds_1 (by decide) ?_
  refine mx_idivN dX9_succeeds_4 (by omega) (by decide) ?_
  refine mx_bipushN 10 dX9_succeeds_5 (by decide) ?_
  refine mx_iremN dX9_succeeds_7 (by omega) (by decide) ?_
  refine mx_top (y := nI ca) (congrArg nI eca) ?_
  refine mx_istoreE_n (i := 2) (ls' := [some (.ref a), some (.int (nI gr)), some (.int (nI ca)), none, none, none, none]) (hi := rfl) (hd := dX9_succeeds_8) (hn := by decide) (hok := rfl) (hls := rfl) ?_
  refine mx_iload_n (i := 1) (hi := rfl) (hl := rfl) (hd := dX9_succeeds_9) ?_
  refine mx_bipushN 100 dX9_succeeds_10 (by decide) ?_
  refine mx_idivN dX9_succeeds_12 (by omega) (by decide) ?_
  refine mx_bipushN 10 dX9_succeeds_13 (by decide) ?_
  refine mx_iremN dX9_succeeds_15 (by omega) (by decide) ?_
  refine mx_top (y := nI cb) (congrArg nI ecb) ?_
  refine mx_istoreE_n (i := 3) (ls' := [some (.ref a), some (.int (nI gr)), some (.int (nI ca)), some (.int (nI cb)), none, none, none]) (hi := rfl) (hd := dX9_succeeds_16) (hn := by decide) (hok := rfl) (hls := rfl) ?_
  refine mx_iload_n (i := 1) (hi := rfl) (hl := rfl) (hd := dX9_succeeds_17) ?_
  refine mx_bipushN 10 dX9_succeeds_18 (by decide) ?_
  refine mx_idivN dX9_succeeds_20 (by omega) (by decide) ?_
  refine mx_bipushN 10 dX9_succeeds_21 (by decide) ?_
  refine mx_iremN dX9_succeeds_23 (by omega) (by decide) ?_
  refine mx_top (y := nI cc) (congrArg nI ecc) ?_
  refine mx_istoreE (i := 4) (ls' := [some (.ref a), some (.int (nI gr)), some (.int (nI ca)), some (.int (nI cb)), some (.int (nI cc)), none, none]) (hd := dX9_succeeds_24) (hn := by decide) (hok := rfl) (hls := rfl) ?_
  refine mx_iload_n (i := 1) (hi := rfl) (hl := rfl) (hd := dX9_succeeds_26) ?_
  refine mx_bipushN 10 dX9_succeeds_27 (by decide) ?_
  refine mx_iremN dX9_succeeds_29 (by omega) (by decide) ?_
  refine mx_top (y := nI cd) (congrArg nI ecd) ?_
  refine mx_istoreE (i := 5) (ls' := [some (.ref a), some (.int (nI gr)), some (.int (nI ca)), some (.int (nI cb)), some (.int (nI cc)), some (.int (nI cd)), none]) (hd := dX9_succeeds_30) (hn := by decide) (hok := rfl) (hls := rfl) ?_
  refine mx_bipushN 10 dX9_succeeds_32 (by decide) ?_
  refine mx_iload_n (i := 2) (hi := rfl) (hl := rfl) (hd := dX9_succeeds_34) ?_
  refine mx_imulN dX9_succeeds_35 ?_
  refine mx_iload_n (i := 3) (hi := rfl) (hl := rfl) (hd := dX9_succeeds_36) ?_
  refine mx_iaddN dX9_succeeds_37 ?_
  refine mx_istoreE (i := 6) (ls' := [some (.ref a), some (.int (nI gr)), some (.int (nI ca)), some (.int (nI cb)), some (.int (nI cc)), some (.int (nI cd)), some (.int (nI ((10 * ca) + cb)))]) (hd := dX9_succeeds_38) (hn := by decide) (hok := rfl) (hls := rfl) ?_
  refine mx_iload_n (i := 1) (hi := rfl) (hl := rfl) (hd := dX9_succeeds_40) ?_
  refine mx_sipushN 10000 dX9_succeeds_41 (by decide) ?_
  refine mx_idivN dX9_succeeds_44 (by omega) (by decide) ?_
  refine mx_top (y := nI ho) (congrArg nI eho) ?_
  rcases (show ho = 0 ∨ ho = 1 ∨ ho = 2 ∨ ho = 3 ∨ ho = 4 ∨ ho = 5 ∨ ho = 6 ∨ ho = 7 ∨ ho = 8 ∨ ho = 9 by omega) with rfl | rfl | rfl | rfl | rfl | rfl | rfl | rfl | rfl | rfl
  · skip
    refine mx_tabOut (tgt := 277) dX9_succeeds_45 (by decide) (by decide) ?_
    refine mx_iconstN 0 dX9_succeeds_277 (by decide) ?_
    exact mx_iret dX9_succeeds_278 rfl (by decide) (⟨sc_h (cgG_0 _ _ _ _ _) hD24 (hd_f (hdC_0 (by decide)) hDv (dfr.rf a I)), rfl⟩)
  · skip
    refine mx_tabIn (tgt := 96) dX9_succeeds_45 (by decide) (by decide) rfl (by decide) ?_
    refine mx_aload_n (i := 0) (hi := rfl) (hl := rfl) (hd := dX9_succeeds_96) ?_
    refine mx_iload_n (i := 2) (hi := rfl) (hl := rfl) (hd := dX9_succeeds_97) ?_
    refine mx_iload_n (i := 3) (hi := rfl) (hl := rfl) (hd := dX9_succeeds_98) ?_
    refine mx_iload (i := 4) (hl := rfl) (hd := dX9_succeeds_99) ?_
    refine mx_iload (i := 5) (hl := rfl) (hd := dX9_succeeds_101) ?_
    refine mx_callVi (ci := 9) (As := [.int (nI ca), .int (nI cb), .int (nI cc), .int (nI cd)]) (rest := []) dX9_succeeds_103 (ct_adds G I a z v hD ca cb cc cd hca hcb hcc hcd) km_X9_adds rfl k_938 k_940 k_20 (by assumption) rfl rfl (Nat.le_of_ble_eq_true rfl) (by decide) (fun r1 I2 h2 => ?_)
    have hq := h2
    have e9 := hq.1
    subst e9
    exact mx_iret dX9_succeeds_106 rfl (mx_b_nz _) (⟨sc_c (by decide) hq, rfl⟩)
  · skip
    refine mx_tabIn (tgt := 107) dX9_succeeds_45 (by decide) (by decide) rfl (by decide) ?_
    refine mx_iload (i := 4) (hl := rfl) (hd := dX9_succeeds_107) ?_
    refine mx_ifN_ne 130 dX9_succeeds_109 (by decide) (by omega) (fun c109 => ?_) (fun c109 => ?_)
    · skip
      refine mx_iconstN 0 dX9_succeeds_130 (by decide) ?_
      exact mx_iret dX9_succeeds_131 rfl (by decide) (⟨sc_c (by decide) (cq_n (cg2_n (by omega)) hDv hD24), rfl⟩)
    · skip
      refine mx_iload (i := 5) (hl := rfl) (hd := dX9_succeeds_112) ?_
      refine mx_ifN_ne 130 dX9_succeeds_114 (by decide) (by omega) (fun c114 => ?_) (fun c114 => ?_)
      · skip
        refine mx_iconstN 0 dX9_succeeds_130 (by decide) ?_
        exact mx_iret dX9_succeeds_131 rfl (by decide) (⟨sc_c (by decide) (cq_n (cg2_n (by omega)) hDv hD24), rfl⟩)
      · skip
        refine mx_aload_n (i := 0) (hi := rfl) (hl := rfl) (hd := dX9_succeeds_117) ?_
        refine mx_iload (i := 6) (hl := rfl) (hd := dX9_succeeds_118) ?_
        refine mx_callVi (ci := 9) (As := [.int (nI ((10 * ca) + cb))]) (rest := []) dX9_succeeds_120 (ct_removes G I a z v hD (10 * ca + cb) (by omega)) km_X9_removes rfl k_942 k_944 k_21 (by assumption) rfl rfl (Nat.le_of_ble_eq_true rfl) (by decide) (fun r3 I2 h4 => ?_)
        have hq := h4
        obtain ⟨e9, hq1, hq2, hq3⟩ := hq
        subst e9
        have hq : cgQ I a v (rmO v (10 * ca + cb)) (some (.int (mx_b (decide ((rmO v (10 * ca + cb)).isSome = true))))) I2 := ⟨rfl, hq1, hq2, hq3⟩
        refine mx_ifB_eq 130 dX9_succeeds_123 (by decide) (fun c123 => ?_) (fun c123 => ?_)
        · skip
          refine mx_iconstN 0 dX9_succeeds_130 (by decide) ?_
          exact mx_iret dX9_succeeds_131 rfl (by decide) (⟨sc_c (by decide) (cq_0 hq (cg2_y (by omega)) c123), rfl⟩)
        · skip
          refine mx_iconstN 1 dX9_succeeds_126 (by decide) ?_
          refine mx_goto (tgt := 131) dX9_succeeds_127 (by decide) ?_
          exact mx_iret dX9_succeeds_131 rfl (by decide) (⟨sc_c (by decide) (cq_1 hq (cg2_y (by omega)) c123), rfl⟩)
  · skip
    refine mx_tabIn (tgt := 132) dX9_succeeds_45 (by decide) (by decide) rfl (by decide) ?_
    refine mx_iload (i := 4) (hl := rfl) (hd := dX9_succeeds_132) ?_
    refine mx_ifN_ne 152 dX9_succeeds_134 (by decide) (by omega) (fun c134 => ?_) (fun c134 => ?_)
    · skip
      refine mx_iconstN 0 dX9_succeeds_152 (by decide) ?_
      exact mx_iret dX9_succeeds_153 rfl (by decide) (⟨sc_c (by decide) (cq_n (cg3_n c134) hDv hD24), rfl⟩)
    · skip
      refine mx_aload_n (i := 0) (hi := rfl) (hl := rfl) (hd := dX9_succeeds_137) ?_
      refine mx_iload (i := 6) (hl := rfl) (hd := dX9_succeeds_138) ?_
      refine mx_iload (i := 5) (hl := rfl) (hd := dX9_succeeds_140) ?_
      refine mx_callVi (ci := 9) (As := [.int (nI ((10 * ca) + cb)), .int (nI cd)]) (rest := []) dX9_succeeds_142 (ct_setsCost G I a z v hD (10 * ca + cb) cd (by omega) hcd) km_X9_setsCost rfl k_946 k_948 k_22 (by assumption) rfl rfl (Nat.le_of_ble_eq_true rfl) (by decide) (fun r5 I2 h6 => ?_)
      have hq := h6
      obtain ⟨e9, hq1, hq2, hq3⟩ := hq
      subst e9
      have hq : cgQ I a v (scO v (10 * ca + cb) cd) (some (.int (mx_b (decide ((scO v (10 * ca + cb) cd).isSome = true))))) I2 := ⟨rfl, hq1, hq2, hq3⟩
      refine mx_ifB_eq 152 dX9_succeeds_145 (by decide) (fun c145 => ?_) (fun c145 => ?_)
      · skip
        refine mx_iconstN 0 dX9_succeeds_152 (by decide) ?_
        exact mx_iret dX9_succeeds_153 rfl (by decide) (⟨sc_c (by decide) (cq_0 hq (cg3_y c134) c145), rfl⟩)
      · skip
        refine mx_iconstN 1 dX9_succeeds_148 (by decide) ?_
        refine mx_goto (tgt := 153) dX9_succeeds_149 (by decide) ?_
        exact mx_iret dX9_succeeds_153 rfl (by decide) (⟨sc_c (by decide) (cq_1 hq (cg3_y c134) c145), rfl⟩)
  · skip
    refine mx_tabIn (tgt := 154) dX9_succeeds_45 (by decide) (by decide) rfl (by decide) ?_
    refine mx_iload (i := 4) (hl := rfl) (hd := dX9_succeeds_154) ?_
    refine mx_ifN_ne 177 dX9_succeeds_156 (by decide) (by omega) (fun c156 => ?_) (fun c156 => ?_)
    · skip
      refine mx_iconstN 0 dX9_succeeds_177 (by decide) ?_
      exact mx_iret dX9_succeeds_178 rfl (by decide) (⟨sc_c (by decide) (cq_n (cg4_n (by omega)) hDv hD24), rfl⟩)
    · skip
      refine mx_iload (i := 5) (hl := rfl) (hd := dX9_succeeds_159) ?_
      refine mx_ifN_ne 177 dX9_succeeds_161 (by decide) (by omega) (fun c161 => ?_) (fun c161 => ?_)
      · skip
        refine mx_iconstN 0 dX9_succeeds_177 (by decide) ?_
        exact mx_iret dX9_succeeds_178 rfl (by decide) (⟨sc_c (by decide) (cq_n (cg4_n (by omega)) hDv hD24), rfl⟩)
      · skip
        refine mx_aload_n (i := 0) (hi := rfl) (hl := rfl) (hd := dX9_succeeds_164) ?_
        refine mx_iload (i := 6) (hl := rfl) (hd := dX9_succeeds_165) ?_
        refine mx_callVi (ci := 9) (As := [.int (nI ((10 * ca) + cb))]) (rest := []) dX9_succeeds_167 (ct_turns G I a z v hD (10 * ca + cb) (by omega)) km_X9_turns rfl k_950 k_952 k_23 (by assumption) rfl rfl (Nat.le_of_ble_eq_true rfl) (by decide) (fun r7 I2 h8 => ?_)
        have hq := h8
        obtain ⟨e9, hq1, hq2, hq3⟩ := hq
        subst e9
        have hq : cgQ I a v (trO v (10 * ca + cb)) (some (.int (mx_b (decide ((trO v (10 * ca + cb)).isSome = true))))) I2 := ⟨rfl, hq1, hq2, hq3⟩
        refine mx_ifB_eq 177 dX9_succeeds_170 (by decide) (fun c170 => ?_) (fun c170 => ?_)
        · skip
          refine mx_iconstN 0 dX9_succeeds_177 (by decide) ?_
          exact mx_iret dX9_succeeds_178 rfl (by decide) (⟨sc_c (by decide) (cq_0 hq (cg4_y (by omega)) c170), rfl⟩)
        · skip
          refine mx_iconstN 1 dX9_succeeds_173 (by decide) ?_
          refine mx_goto (tgt := 178) dX9_succeeds_174 (by decide) ?_
          exact mx_iret dX9_succeeds_178 rfl (by decide) (⟨sc_c (by decide) (cq_1 hq (cg4_y (by omega)) c170), rfl⟩)
  · skip
    refine mx_tabIn (tgt := 179) dX9_succeeds_45 (by decide) (by decide) rfl (by decide) ?_
    refine mx_iload (i := 4) (hl := rfl) (hd := dX9_succeeds_179) ?_
    refine mx_ifN_ne 202 dX9_succeeds_181 (by decide) (by omega) (fun c181 => ?_) (fun c181 => ?_)
    · skip
      refine mx_iconstN 0 dX9_succeeds_202 (by decide) ?_
      exact mx_iret dX9_succeeds_203 rfl (by decide) (⟨sc_c (by decide) (cq_n (cg5_n (by omega)) hDv hD24), rfl⟩)
    · skip
      refine mx_iload (i := 5) (hl := rfl) (hd := dX9_succeeds_184) ?_
      refine mx_ifN_ne 202 dX9_succeeds_186 (by decide) (by omega) (fun c186 => ?_) (fun c186 => ?_)
      · skip
        refine mx_iconstN 0 dX9_succeeds_202 (by decide) ?_
        exact mx_iret dX9_succeeds_203 rfl (by decide) (⟨sc_c (by decide) (cq_n (cg5_n (by omega)) hDv hD24), rfl⟩)
      · skip
        refine mx_aload_n (i := 0) (hi := rfl) (hl := rfl) (hd := dX9_succeeds_189) ?_
        refine mx_iload_n (i := 2) (hi := rfl) (hl := rfl) (hd := dX9_succeeds_190) ?_
        refine mx_iload_n (i := 3) (hi := rfl) (hl := rfl) (hd := dX9_succeeds_191) ?_
        refine mx_callVi (ci := 9) (As := [.int (nI ca), .int (nI cb)]) (rest := []) dX9_succeeds_192 (ct_exchanges G I a z v hD ca cb (by omega) (by omega)) km_X9_exchanges rfl k_954 k_956 k_24 (by assumption) rfl rfl (Nat.le_of_ble_eq_true rfl) (by decide) (fun r9 I2 h10 => ?_)
        have hq := h10
        obtain ⟨e9, hq1, hq2, hq3⟩ := hq
        subst e9
        have hq : cgQ I a v (exO v ca cb) (some (.int (mx_b (decide ((exO v ca cb).isSome = true))))) I2 := ⟨rfl, hq1, hq2, hq3⟩
        refine mx_ifB_eq 202 dX9_succeeds_195 (by decide) (fun c195 => ?_) (fun c195 => ?_)
        · skip
          refine mx_iconstN 0 dX9_succeeds_202 (by decide) ?_
          exact mx_iret dX9_succeeds_203 rfl (by decide) (⟨sc_c (by decide) (cq_0 hq (cg5_y (by omega)) c195), rfl⟩)
        · skip
          refine mx_iconstN 1 dX9_succeeds_198 (by decide) ?_
          refine mx_goto (tgt := 203) dX9_succeeds_199 (by decide) ?_
          exact mx_iret dX9_succeeds_203 rfl (by decide) (⟨sc_c (by decide) (cq_1 hq (cg5_y (by omega)) c195), rfl⟩)
  · skip
    refine mx_tabIn (tgt := 204) dX9_succeeds_45 (by decide) (by decide) rfl (by decide) ?_
    refine mx_aload_n (i := 0) (hi := rfl) (hl := rfl) (hd := dX9_succeeds_204) ?_
    refine mx_iload_n (i := 2) (hi := rfl) (hl := rfl) (hd := dX9_succeeds_205) ?_
    refine mx_iload_n (i := 3) (hi := rfl) (hl := rfl) (hd := dX9_succeeds_206) ?_
    refine mx_bipushN 10 dX9_succeeds_207 (by decide) ?_
    refine mx_iload (i := 4) (hl := rfl) (hd := dX9_succeeds_209) ?_
    refine mx_imulN dX9_succeeds_211 ?_
    refine mx_iload (i := 5) (hl := rfl) (hd := dX9_succeeds_212) ?_
    refine mx_iaddN dX9_succeeds_214 ?_
    refine mx_callVi (ci := 9) (As := [.int (nI ca), .int (nI cb), .int (nI ((10 * cc) + cd))]) (rest := []) dX9_succeeds_215 (ct_costsAtMost G I a z v hD ca cb (10 * cc + cd) (by omega) (by omega) (by omega)) km_X9_costsAtMost rfl k_958 k_960 k_25 (by assumption) rfl rfl (Nat.le_of_ble_eq_true rfl) (by decide) (fun r11 I2 h12 => ?_)
    obtain ⟨b9, e9, q4, q5, q6⟩ := h12
    subst e9
    exact mx_iret dX9_succeeds_218 rfl (mx_b_nz _) (⟨sc_h (cgG_6 _ _ _ _ _) hD24 ⟨b9, rfl, by rw [hdC_6]; exact q4, q5, q6⟩, rfl⟩)
  · skip
    refine mx_tabIn (tgt := 219) dX9_succeeds_45 (by decide) (by decide) rfl (by decide) ?_
    refine mx_iload (i := 4) (hl := rfl) (hd := dX9_succeeds_219) ?_
    refine mx_ifN_ne 239 dX9_succeeds_221 (by decide) (by omega) (fun c221 => ?_) (fun c221 => ?_)
    · skip
      refine mx_iconstN 0 dX9_succeeds_239 (by decide) ?_
      exact mx_iret dX9_succeeds_240 rfl (by decide) (⟨sc_h (cgG_7 _ _ _ _ _) hD24 (hd_f (by rw [hdC_7]; exact fun q => (by first | exact c221 q.1.2)) hDv (dfr.rf a I)), rfl⟩)
    · skip
      refine mx_aload_n (i := 0) (hi := rfl) (hl := rfl) (hd := dX9_succeeds_224) ?_
      refine mx_iload_n (i := 2) (hi := rfl) (hl := rfl) (hd := dX9_succeeds_225) ?_
      refine mx_iload_n (i := 3) (hi := rfl) (hl := rfl) (hd := dX9_succeeds_226) ?_
      refine mx_iload (i := 5) (hl := rfl) (hd := dX9_succeeds_227) ?_
      refine mx_callVi (ci := 9) (As := [.int (nI ca), .int (nI cb), .int (nI cd)]) (rest := []) dX9_succeeds_229 (ct_goesAtMost G I a z v hD ca cb cd (by omega) (by omega) (by omega)) km_X9_goesAtMost rfl k_962 k_964 k_26 (by assumption) rfl rfl (Nat.le_of_ble_eq_true rfl) (by decide) (fun r13 I2 h14 => ?_)
      obtain ⟨b9, e9, q4, q5, q6⟩ := h14
      subst e9
      refine mx_ifB_eq 239 dX9_succeeds_232 (by decide) (fun c232 => ?_) (fun c232 => ?_)
      · skip
        refine mx_iconstN 0 dX9_succeeds_239 (by decide) ?_
        exact mx_iret dX9_succeeds_240 rfl (by decide) (⟨sc_h (cgG_7 _ _ _ _ _) hD24 (hd_f (by rw [hdC_7]; exact fun q => c232 (q4.mpr ⟨q.1.1, q.2⟩)) q5 q6), rfl⟩)
      · skip
        refine mx_iconstN 1 dX9_succeeds_235 (by decide) ?_
        refine mx_goto (tgt := 240) dX9_succeeds_236 (by decide) ?_
        exact mx_iret dX9_succeeds_240 rfl (by decide) (⟨sc_h (cgG_7 _ _ _ _ _) hD24 (hd_t (by rw [hdC_7]; exact ⟨⟨(q4.mp c232).1, c221⟩, (q4.mp c232).2⟩) q5 q6), rfl⟩)
  · skip
    refine mx_tabIn (tgt := 241) dX9_succeeds_45 (by decide) (by decide) rfl (by decide) ?_
    refine mx_iload_n (i := 3) (hi := rfl) (hl := rfl) (hd := dX9_succeeds_241) ?_
    refine mx_ifN_ne 264 dX9_succeeds_242 (by decide) (by omega) (fun c242 => ?_) (fun c242 => ?_)
    · skip
      refine mx_iconstN 0 dX9_succeeds_264 (by decide) ?_
      exact mx_iret dX9_succeeds_265 rfl (by decide) (⟨sc_h (cgG_8 _ _ _ _ _) hD24 (hd_f (by rw [hdC_8]; exact fun q => (by first | exact absurd q.1.2 (by omega))) hDv (dfr.rf a I)), rfl⟩)
    · skip
      refine mx_iload (i := 4) (hl := rfl) (hd := dX9_succeeds_245) ?_
      refine mx_ifN_ne 264 dX9_succeeds_247 (by decide) (by omega) (fun c247 => ?_) (fun c247 => ?_)
      · skip
        refine mx_iconstN 0 dX9_succeeds_264 (by decide) ?_
        exact mx_iret dX9_succeeds_265 rfl (by decide) (⟨sc_h (cgG_8 _ _ _ _ _) hD24 (hd_f (by rw [hdC_8]; exact fun q => (by first | exact absurd q.1.2 (by omega))) hDv (dfr.rf a I)), rfl⟩)
      · skip
        refine mx_aload_n (i := 0) (hi := rfl) (hl := rfl) (hd := dX9_succeeds_250) ?_
        refine mx_iload_n (i := 2) (hi := rfl) (hl := rfl) (hd := dX9_succeeds_251) ?_
        refine mx_iload (i := 5) (hl := rfl) (hd := dX9_succeeds_252) ?_
        refine mx_callVi (ci := 9) (As := [.int (nI ca), .int (nI cd)]) (rest := []) dX9_succeeds_254 (ct_reachesAtLeast G I a z v hD ca cd (by omega) (by omega)) km_X9_reachesAtLeast rfl k_966 k_968 k_27 (by assumption) rfl rfl (Nat.le_of_ble_eq_true rfl) (by decide) (fun r15 I2 h16 => ?_)
        obtain ⟨b9, e9, q4, q5, q6⟩ := h16
        subst e9
        refine mx_ifB_eq 264 dX9_succeeds_257 (by decide) (fun c257 => ?_) (fun c257 => ?_)
        · skip
          refine mx_iconstN 0 dX9_succeeds_264 (by decide) ?_
          exact mx_iret dX9_succeeds_265 rfl (by decide) (⟨sc_h (cgG_8 _ _ _ _ _) hD24 (hd_f (by rw [hdC_8]; exact fun q => c257 (q4.mpr ⟨q.1.1, q.2⟩)) q5 q6), rfl⟩)
        · skip
          refine mx_iconstN 1 dX9_succeeds_260 (by decide) ?_
          refine mx_goto (tgt := 265) dX9_succeeds_261 (by decide) ?_
          exact mx_iret dX9_succeeds_265 rfl (by decide) (⟨sc_h (cgG_8 _ _ _ _ _) hD24 (hd_t (by rw [hdC_8]; exact ⟨⟨(q4.mp c257).1, by omega⟩, (q4.mp c257).2⟩) q5 q6), rfl⟩)
  · skip
    refine mx_tabIn (tgt := 266) dX9_succeeds_45 (by decide) (by decide) rfl (by decide) ?_
    refine mx_aload_n (i := 0) (hi := rfl) (hl := rfl) (hd := dX9_succeeds_266) ?_
    refine mx_iload (i := 6) (hl := rfl) (hd := dX9_succeeds_267) ?_
    refine mx_iload (i := 4) (hl := rfl) (hd := dX9_succeeds_269) ?_
    refine mx_iload (i := 5) (hl := rfl) (hd := dX9_succeeds_271) ?_
    refine mx_callVi (ci := 9) (As := [.int (nI ((10 * ca) + cb)), .int (nI cc), .int (nI cd)]) (rest := []) dX9_succeeds_273 (ct_needsStep G I a z v hD (10 * ca + cb) cc cd (by omega) (by omega) (by omega)) km_X9_needsStep rfl k_976 k_978 k_28 (by assumption) rfl rfl (Nat.le_of_ble_eq_true rfl) (by decide) (fun r17 I2 h18 => ?_)
    obtain ⟨b9, e9, q4, q5, q6⟩ := h18
    subst e9
    exact mx_iret dX9_succeeds_276 rfl (mx_b_nz _) (⟨sc_h (cgG_9 _ _ _ _ _) hD24 ⟨b9, rfl, by rw [hdC_9]; exact q4, q5, q6⟩, rfl⟩)

noncomputable def cmCB (v : Gr) (A : Pa) (ho a b c d : Nat) : Bool := (cgG v ho a b c d).isSome || @decide (hdC v A ho a b c d) (Classical.propDecidable _)
noncomputable def rsC (A : Pa) (sc n : Nat) : Nat → Nat → Gr → Int32
  | 0, _, _ => -9
  | f + 1, k, v => if cmCB v A (sc / 100000 ^ (n - (k + 1)) % 100000 / 10000) (sc / 100000 ^ (n - (k + 1)) % 100000 / 1000 % 10) (sc / 100000 ^ (n - (k + 1)) % 100000 / 100 % 10) (sc / 100000 ^ (n - (k + 1)) % 100000 / 10 % 10) (sc / 100000 ^ (n - (k + 1)) % 100000 % 10) = true then rsC A sc n f (k + 1) (cmV v (sc / 100000 ^ (n - (k + 1)) % 100000 / 10000) (sc / 100000 ^ (n - (k + 1)) % 100000 / 1000 % 10) (sc / 100000 ^ (n - (k + 1)) % 100000 / 100 % 10) (sc / 100000 ^ (n - (k + 1)) % 100000 / 10 % 10) (sc / 100000 ^ (n - (k + 1)) % 100000 % 10)) else nI k
theorem rsC_g {A : Pa} {sc n f k gr : Nat} {v : Gr} (h : sc / 100000 ^ (n - (k + 1)) % 100000 = gr) : rsC A sc n (f + 1) k v = if cmCB v A (gr / 10000) (gr / 1000 % 10) (gr / 100 % 10) (gr / 10 % 10) (gr % 10) = true then rsC A sc n f (k + 1) (cmV v (gr / 10000) (gr / 1000 % 10) (gr / 100 % 10) (gr / 10 % 10) (gr % 10)) else nI k := by
  subst h
  rfl
noncomputable def an_runScript (z : Zs) (n sc : Nat) : Int32 := rsC (vA (zX z)) sc n n 0 (zG z)
theorem cmCB_t {v : Gr} {A : Pa} {ho a b c d : Nat} (h : (cgG v ho a b c d).isSome = true ∨ hdC v A ho a b c d) : cmCB v A ho a b c d = true := by
  unfold cmCB
  rcases h with h | h
  · rw [h]; rfl
  · rw [@decide_eq_true _ (Classical.propDecidable _) h, Bool.or_true]
theorem cmCB_f {v : Gr} {A : Pa} {ho a b c d : Nat} (h : ¬ (cgG v ho a b c d).isSome = true) (h2 : ¬ hdC v A ho a b c d) : ¬ cmCB v A ho a b c d = true := by
  unfold cmCB
  rw [@decide_eq_false _ (Classical.propDecidable _) h2, Bool.or_false]
  exact h
theorem cmV_n {v : Gr} {ho a b c d : Nat} (h : ¬ (cgG v ho a b c d).isSome = true) : cmV v ho a b c d = v := by
  unfold cmV
  cases e : cgG v ho a b c d with
  | none => rfl
  | some w => rw [e] at h; exact absurd rfl h

set_option maxHeartbeats 1000000 in
set_option maxRecDepth 100000 in
theorem ct_runScript (G : mx_G) (I : mx_I) (a : Nat) (z : Zs) (hW : cW G I a z) (n : Int32) (sc : Int64) : mx_CT yX9_runScript mX9_runScript 8 2 12 [.ref a, .int n, .long sc] G I (fun rv Gz Iz => fl_runScript n sc = 0 ∧ rv = some (.int (an_runScript z n.toInt.toNat sc.toInt.toNat)) ∧ cP G I a z Gz Iz) (fun E Gz Iz => (fl_runScript n sc) ≠ 0 ∧ E = exN (fl_runScript n sc) ∧ cP G I a z Gz Iz) := by
  refine mx_start (k := 1) (by decide) rfl rfl (fun h => nomatch h) (Nat.le_of_ble_eq_true rfl) ?_
  show mx_V mX9_runScript mx_S0 8 2 12 0 [some (.ref a), some (.int n), some (.long sc), none, none] [] G I (fun rv Gz Iz => fl_runScript n sc = 0 ∧ rv = some (.int (an_runScript z n.toInt.toNat sc.toInt.toNat)) ∧ cP G I a z Gz Iz) (fun E Gz Iz => (fl_runScript n sc) ≠ 0 ∧ E = exN (fl_runScript n sc) ∧ cP G I a z Gz Iz)
  have hW0 := hW
  obtain ⟨⟨hSP, hsz, hpe⟩, hTx, hSt, hHi, hSl⟩ := hW
  have oSt : oST G (a + 37) := hSP.2.2.2.2.1.2
  obtain ⟨tg9, ⟨f0, oTx⟩, ⟨f1, oPt⟩, ⟨f2, oRd⟩, ⟨f3, -⟩, ⟨f4, oDr⟩, ⟨f5, oHi⟩, ⟨f6, gSl, lSl, ⟨rq0, oS0⟩, ⟨rq1, oS1⟩⟩, ⟨f7, gFi, lFi⟩, ⟨f8, oSe⟩, ⟨f9, oTr⟩, ⟨f10, oBp⟩⟩ := hSP
  have tg0 : mx_tg G (a + 1) = 17 := oTx.1
  have tg1 : mx_tg G (a + 3) = 12 := oPt.1
  have tg2 : mx_tg G (a + 8) = 13 := oRd.1
  have tg3 : mx_tg G (a + 37) = 16 := oSt.1
  have tg4 : mx_tg G (a + 42) = 16 := oDr.1
  have tg5 : mx_tg G (a + 47) = 11 := oHi.1
  have tg6 : mx_tg G (a + 131) = 15 := oSe.1
  have tg7 : mx_tg G (a + 136) = 15 := oTr.1
  have tg8 : mx_tg G (a + 141) = 10 := oBp.1
  obtain ⟨rT, tT, lT⟩ : mx_rf G (a + 1) 0 = a + 2 ∧ mx_tg G (a + 2) = 2 ∧ mx_ln G (a + 2) = 110 := oTx.2
  have oSt0 : oST G (a + 37) := oSt
  obtain ⟨-, ⟨rF, tF, lF⟩, ⟨rK, tK, lK⟩, ⟨rO, tO, lO⟩, ⟨rC, tC, lC⟩⟩ : mx_tg G (a + 37) = 16 ∧ (mx_rf G (a + 37) 2 = a + 38 ∧ mx_tg G (a + 38) = 1 ∧ mx_ln G (a + 38) = 25) ∧ (mx_rf G (a + 37) 3 = a + 39 ∧ mx_tg G (a + 39) = 1 ∧ mx_ln G (a + 39) = 25) ∧ (mx_rf G (a + 37) 4 = a + 40 ∧ mx_tg G (a + 40) = 1 ∧ mx_ln G (a + 40) = 25) ∧ (mx_rf G (a + 37) 5 = a + 41 ∧ mx_tg G (a + 41) = 1 ∧ mx_ln G (a + 41) = 25) := oSt
  have hSv : stN I (a + 37) (zG z) := hSt.1
  obtain ⟨⟨hP8, hN25, hvb⟩, hs0, hs1, hsF, hsK, hsT, hsC⟩ : stN I (a + 37) (zG z) := hSt.1
  have hN24 : gN (zG z) ≤ 24 := hSt.2.1.1
  have hTx0 := hTx
  obtain ⟨hn110, ht1, htc, htb⟩ : txN I (a + 1) (zN z) (zT z) := hTx
  obtain ⟨pt, hpt⟩ : ∃ pt, mx_rf G (a + 37) 6 = pt := ⟨_, rfl⟩
  have he0 : env G I (a + 37) pt (zG z) (vA (zX z)) := by rw [← hpt]; exact hW0.env
  have hpd : pt = a + 3 ∨ a + 146 ≤ pt := by rw [← hpt]; exact hW0.2.2.1.2.2.1
  have hpd5 : pt + 5 ≤ mx_sz G := by rw [← hpt]; exact hW0.2.2.1.2.2.2.1
  have tgp : mx_tg G pt = 12 := he0.2.1.1
  obtain ⟨rch, tch, lch⟩ : mx_rf G pt 0 = pt + 1 ∧ mx_tg G (pt + 1) = 2 ∧ mx_ln G (pt + 1) = 40 := he0.2.1.2.1
  have hpn : ptN I pt (vA (zX z)) := he0.2.2.2.2
  have hwfp : wfP (vA (zX z)) := hpn.1
  have hwfg : wfG (zG z) := he0.2.2.2.1.1
  have hn40 : (zX z).2.1 ≤ 40 := hSt.2.1.2.1
  have hpz : I pt 1 = nI (zX z).2.1 := by
    rw [hpn.2.1, show pSz (vA (zX z)) = min (zX z).2.1 40 from (rdF_sz _ _).1, Nat.min_eq_left hn40]
  have hpl : I pt 2 = nI (pL (vA (zX z))) := hpn.2.2.1
  have hpc : ∀ i, i < (zX z).2.1 → I (pt + 1) i = nI ((zX z).2.2 i) := fun i hi => by
    have h := hpn.2.2.2.2.1 i (by rw [show pSz (vA (zX z)) = min (zX z).2.1 40 from (rdF_sz _ _).1, Nat.min_eq_left hn40]; exact hi)
    rw [h, show pCh (vA (zX z)) = (zX z).2.2 from (rdF_sz _ _).2]
  have hpc8 : ∀ i, i < (zX z).2.1 → (zX z).2.2 i < 256 := hSt.2.1.2.2.2
  have J15 : ∀ (_ : Unit), mx_V mX9_runScript mx_S0 8 2 12 15 [some (.ref a), some (.int n), some (.long sc), none, none] [.int (mx_b (decide (1 ≤ n.toInt ∧ n.toInt ≤ 3)))] G I (fun rv Gz Iz => fl_runScript n sc = 0 ∧ rv = some (.int (an_runScript z n.toInt.toNat sc.toInt.toNat)) ∧ cP G I a z Gz Iz) (fun E Gz Iz => (fl_runScript n sc) ≠ 0 ∧ E = exN (fl_runScript n sc) ∧ cP G I a z Gz Iz) := by
    intro _ 
    refine mx_iconstN 2 dX9_runScript_15 (by decide) ?_
    refine mx_callS (As := [.int (mx_b (decide (1 ≤ n.toInt ∧ n.toInt ≤ 3))), .int (nI 2)]) (rest := []) (b1 := 1) (b2 := 6) dX9_runScript_16 (ct_require G I (1 ≤ n.toInt ∧ n.toInt ≤ 3) 2 (by decide)) km_X9_require rfl k_412 k_413 rfl rfl (Nat.le_of_ble_eq_true rfl) (by decide) (fun E G9 I9 h9 => mx_xo rfl (by have hf : fl_runScript n sc = 2 := (by unfold fl_runScript; rw [if_pos h9.1]); show (fl_runScript n sc) ≠ 0 ∧ E = exN (fl_runScript n sc) ∧ cP G I a z G9 I9; rw [hf]; exact ⟨by decide, hW0.id.thw h9.2.2⟩)) (fun r1 G3 I2 h4 => ?_)
    obtain ⟨e0, e1, e2, e3⟩ := h4
    have e2 := e2.symm
    subst e1; subst e2; subst e3
    have k2 : 1 ≤ n.toInt ∧ n.toInt ≤ 3 := e0.resolve_right (by decide)
    clear e0
    have hnne : n = nI n.toInt.toNat := (mx_nn (by omega)).symm
    have hnnb : 1 ≤ n.toInt.toNat ∧ n.toInt.toNat ≤ 3 := by omega
    have hnn31 : n.toInt.toNat < 2 ^ 31 := tn31 _
    generalize n.toInt.toNat = nn at hnne hnnb hnn31 ⊢
    subst hnne
    have h63 := q100k hnnb.2
    have J42 : ∀ (_ : Unit), mx_V mX9_runScript mx_S0 8 1 6 42 [some (.ref a), some (.int (nI nn)), some (.long sc), none, none] [.int (mx_b (decide (0 ≤ sc.toInt ∧ sc.toInt < ((100000 ^ nn : Nat) : Int))))] G I (fun rv Gz Iz => fl_runScript (nI nn) sc = 0 ∧ rv = some (.int (an_runScript z nn sc.toInt.toNat)) ∧ cP G I a z Gz Iz) (fun E Gz Iz => (fl_runScript (nI nn) sc) ≠ 0 ∧ E = exN (fl_runScript (nI nn) sc) ∧ cP G I a z Gz Iz) := by
      intro _ 
      refine mx_iconstN 2 dX9_runScript_42 (by decide) ?_
      refine mx_callS (As := [.int (mx_b (decide (0 ≤ sc.toInt ∧ sc.toInt < ((100000 ^ nn : Nat) : Int)))), .int (nI 2)]) (rest := []) (b1 := 1) (b2 := 6) dX9_runScript_43 (ct_require G I (0 ≤ sc.toInt ∧ sc.toInt < ((100000 ^ nn : Nat) : Int)) 2 (by decide)) km_X9_require rfl k_412 k_413 rfl rfl (Nat.le_of_ble_eq_true rfl) (by decide) (fun E G9 I9 h9 => mx_xo rfl (by have hf : fl_runScript (nI nn) sc = 2 := (by unfold fl_runScript; rw [if_neg (fun q => q k2), if_pos (by rw [nI_tt hnn31]; exact h9.1)]); show (fl_runScript (nI nn) sc) ≠ 0 ∧ E = exN (fl_runScript (nI nn) sc) ∧ cP G I a z G9 I9; rw [hf]; exact ⟨by decide, hW0.id.thw h9.2.2⟩)) (fun r5 G7 I6 h8 => ?_)
      obtain ⟨e0, e1, e2, e3⟩ := h8
      have e2 := e2.symm
      subst e1; subst e2; subst e3
      have k9 : 0 ≤ sc.toInt ∧ sc.toInt < ((100000 ^ nn : Nat) : Int) := e0.resolve_right (by decide)
      clear e0
      have hre : sc = lN sc.toInt.toNat := lN_nn (k9.1)
      have hrb : sc.toInt.toNat < 100000 ^ nn := tn_lt k9
      generalize sc.toInt.toNat = r at hre hrb ⊢
      subst hre
      have hr63 : r < 2 ^ 63 := Nat.lt_trans hrb h63
      have hle : ∀ i, r / 100000 ^ i < 2 ^ 63 := fun i => Nat.lt_of_le_of_lt (Nat.div_le_self _ _) hr63
      refine mx_aload_n (i := 0) (hi := rfl) (hl := rfl) (hd := dX9_runScript_46) ?_
      refine mx_getR (ci := 9) (k := 4) (r := (a + 42)) dX9_runScript_47 k_329 (by decide) rfl (by assumption) (by assumption) (by omega) ?_
      refine mx_aload_n (i := 0) (hi := rfl) (hl := rfl) (hd := dX9_runScript_50) ?_
      refine mx_getR (ci := 9) (k := 3) (r := (a + 37)) dX9_runScript_51 k_328 (by decide) rfl (by assumption) (by assumption) (by omega) ?_
      refine mx_callV (ci := 6) (As := [.ref (a + 37)]) (rest := []) (b1 := 0) (b2 := 0) dX9_runScript_54 (ct_copyFrom G I (a + 42) (a + 37) pt _ oDr oSt0 hSv (Or.inr (by omega)) hpt tgp) km_X6_copyFrom rfl k_525 k_526 k_527 (by assumption) rfl rfl (Nat.le_of_ble_eq_true rfl) (by decide) (fun _ _ _ q => q.elim) (fun r9 G3 I3 h10 => ?_)
      obtain ⟨e9, e1, n1, n2⟩ := h10
      subst e9
      have hP3 : cP G I a z G3 I3 ∧ mx_rf G3 (a + 42) 6 = mx_rf G3 (a + 37) 6 := by rw [e1]; exact hW0.dc hpt n2
      obtain ⟨hP3, hrd⟩ := hP3
      have hD3 : dW G3 I3 a z (zG z) := ⟨hP3.1, n1, hN24, hrd⟩
      clear e1 n1 n2 hSl
      obtain ⟨⟨hSP, hsz, hpe⟩, hTx, hSt, hHi, hSl⟩ := hP3.1
      have oSt : oST G3 (a + 37) := hSP.2.2.2.2.1.2
      obtain ⟨tg9, ⟨f0, oTx⟩, ⟨f1, oPt⟩, ⟨f2, oRd⟩, ⟨f3, -⟩, ⟨f4, oDr⟩, ⟨f5, oHi⟩, ⟨f6, gSl, lSl, ⟨rq0, oS0⟩, ⟨rq1, oS1⟩⟩, ⟨f7, gFi, lFi⟩, ⟨f8, oSe⟩, ⟨f9, oTr⟩, ⟨f10, oBp⟩⟩ := hSP
      have tg0 : mx_tg G3 (a + 1) = 17 := oTx.1
      have tg1 : mx_tg G3 (a + 3) = 12 := oPt.1
      have tg2 : mx_tg G3 (a + 8) = 13 := oRd.1
      have tg3 : mx_tg G3 (a + 37) = 16 := oSt.1
      have tg4 : mx_tg G3 (a + 42) = 16 := oDr.1
      have tg5 : mx_tg G3 (a + 47) = 11 := oHi.1
      have tg6 : mx_tg G3 (a + 131) = 15 := oSe.1
      have tg7 : mx_tg G3 (a + 136) = 15 := oTr.1
      have tg8 : mx_tg G3 (a + 141) = 10 := oBp.1
      obtain ⟨rT, tT, lT⟩ : mx_rf G3 (a + 1) 0 = a + 2 ∧ mx_tg G3 (a + 2) = 2 ∧ mx_ln G3 (a + 2) = 110 := oTx.2
      have oSt0 : oST G3 (a + 37) := oSt
      obtain ⟨-, ⟨rF, tF, lF⟩, ⟨rK, tK, lK⟩, ⟨rO, tO, lO⟩, ⟨rC, tC, lC⟩⟩ : mx_tg G3 (a + 37) = 16 ∧ (mx_rf G3 (a + 37) 2 = a + 38 ∧ mx_tg G3 (a + 38) = 1 ∧ mx_ln G3 (a + 38) = 25) ∧ (mx_rf G3 (a + 37) 3 = a + 39 ∧ mx_tg G3 (a + 39) = 1 ∧ mx_ln G3 (a + 39) = 25) ∧ (mx_rf G3 (a + 37) 4 = a + 40 ∧ mx_tg G3 (a + 40) = 1 ∧ mx_ln G3 (a + 40) = 25) ∧ (mx_rf G3 (a + 37) 5 = a + 41 ∧ mx_tg G3 (a + 41) = 1 ∧ mx_ln G3 (a + 41) = 25) := oSt
      have hSv : stN I3 (a + 37) (zG z) := hSt.1
      obtain ⟨⟨hP8, hN25, hvb⟩, hs0, hs1, hsF, hsK, hsT, hsC⟩ : stN I3 (a + 37) (zG z) := hSt.1
      have hN24 : gN (zG z) ≤ 24 := hSt.2.1.1
      have hTx0 := hTx
      obtain ⟨hn110, ht1, htc, htb⟩ : txN I3 (a + 1) (zN z) (zT z) := hTx
      have hf0 : fl_runScript (nI nn) (lN r) = 0 := by
        unfold fl_runScript
        rw [if_neg (fun q => q k2), if_neg (fun q => q (by rw [nI_tt hnn31]; exact k9))]
      have L60 : ∀ (fq : Nat) (k : Nat) (v : Gr) (I4 : mx_I), nn - k < fq → (k ≤ nn) → (an_runScript z nn r = rsC (vA (zX z)) r nn (nn - k) k v) → (dW G3 I4 a z v) → (dfr a I3 I4) → mx_V mX9_runScript mx_S0 8 0 0 60 [some (.ref a), some (.int (nI nn)), some (.long (lN r)), none, some (.int (nI k))] [] G3 I4 (fun rv Gz Iz => fl_runScript (nI nn) (lN r) = 0 ∧ rv = some (.int (an_runScript z nn r)) ∧ cP G I a z Gz Iz) (fun E Gz Iz => (fl_runScript (nI nn) (lN r)) ≠ 0 ∧ E = exN (fl_runScript (nI nn) (lN r)) ∧ cP G I a z Gz Iz) := by
        intro fq
        induction fq with
        | zero => intro k v I4 hfu; exact absurd hfu (Nat.not_lt_zero _)
        | succ fq ih =>
          intro k v I4 hfu hk hx hD4 hf4
          refine mx_iload (i := 4) (hl := rfl) (hd := dX9_runScript_60) ?_
          refine mx_iload_n (i := 1) (hi := rfl) (hl := rfl) (hd := dX9_runScript_62) ?_
          refine mx_cmpN_ge 99 dX9_runScript_63 (by decide) (by omega) (by omega) (fun c63 => ?_) (fun c63 => ?_)
          · skip
            refine mx_bipush (v := (-9)) (by decide) dX9_runScript_99 ?_
            exact mx_iret dX9_runScript_101 rfl rfl (⟨hf0, by rw [hx, show nn - k = 0 by omega]; rfl, hP3.up hf4⟩)
          · skip
            obtain ⟨gr, hgo⟩ : ∃ gr, r / 100000 ^ (nn - (k + 1)) % 100000 = gr := ⟨_, rfl⟩
            have hgr : gr < 100000 := by rw [← hgo]; exact Nat.mod_lt _ (by decide)
            have hst := rsC_g (A := vA (zX z)) (n := nn) (f := nn - (k + 1)) (v := v) hgo
            rw [show nn - (k + 1) + 1 = nn - k by omega] at hst
            refine mx_aload_n (i := 0) (hi := rfl) (hl := rfl) (hd := dX9_runScript_66) ?_
            refine mx_lload_n (i := 2) (hi := rfl) (hl := rfl) (hd := dX9_runScript_67) ?_
            refine mx_iconstN 5 dX9_runScript_68 (by decide) ?_
            refine mx_iload_n (i := 1) (hi := rfl) (hl := rfl) (hd := dX9_runScript_69) ?_
            refine mx_iconstN 1 dX9_runScript_70 (by decide) ?_
            refine mx_isubN dX9_runScript_71 (by omega) ?_
            refine mx_iload (i := 4) (hl := rfl) (hd := dX9_runScript_72) ?_
            refine mx_isubN dX9_runScript_74 (by omega) ?_
            refine mx_imulN dX9_runScript_75 ?_
            refine mx_callSp (As := [.long (lN r), .int (nI (5 * ((nn - 1) - k)))]) (rest := [.ref a]) dX9_runScript_76 (ct_without G3 I4 r (5 * (nn - 1 - k)) hr63 (by omega)) km_X9_without rfl k_921 k_922 rfl rfl (Nat.le_of_ble_eq_true rfl) (by decide) ?_
            refine mx_topl (y := lN (r / 100000 ^ (nn - 1 - k))) (by rw [p10_5]) ?_
            refine mx_ldc2 (v := (100000)) k_933 dX9_runScript_79 ?_
            refine mx_topl (y := lN 100000) (rfl) ?_
            refine mx_lrem (by decide) dX9_runScript_82 ?_
            refine mx_topl (y := lN (r / 100000 ^ (nn - 1 - k) % 100000)) (pk_lRem (hle _) (by decide) (by decide)) ?_
            refine mx_l2i (hv := rfl) (hd := dX9_runScript_83) ?_
            refine mx_top (y := nI gr) (by rw [lN_i, show nn - 1 - k = nn - (k + 1) by omega, hgo]) ?_
            refine mx_callVi (ci := 9) (As := [.int (nI gr)]) (rest := []) dX9_runScript_84 (ct_succeeds G3 I4 a z v hD4 gr _ _ _ _ _ hgr rfl rfl rfl rfl rfl) km_X9_succeeds rfl k_934 k_936 k_19 (by assumption) rfl rfl (Nat.le_of_ble_eq_true rfl) (by decide) (fun r11 I5 h12 => ?_)
            obtain ⟨b9, e9, q4, q1, q2, q3⟩ := h12
            subst e9
            have hD5 := hD4.k q1 q2 q3
            refine mx_ifB_ne 93 dX9_runScript_87 (by decide) (fun c87 => ?_) (fun c87 => ?_)
            · skip
              refine mx_iincE (i := 4) (ls' := [some (.ref a), some (.int (nI nn)), some (.long (lN r)), none, some (.int (nI (k + 1)))]) 1 dX9_runScript_93 rfl (by decide) (by decide) rfl rfl ?_
              refine mx_goto (tgt := 60) dX9_runScript_96 (by decide) ?_
              exact ih (k + 1) _ _ (by omega) (by omega) (by rw [hx, hst, if_pos (cmCB_t (q4.mp c87))]) hD5 (hf4.tr q3)
            · skip
              refine mx_iload (i := 4) (hl := rfl) (hd := dX9_runScript_90) ?_
              exact mx_iret dX9_runScript_92 rfl rfl (⟨hf0, by rw [hx, hst, if_neg (cmCB_f (fun q9 => c87 (q4.mpr (Or.inl q9))) (fun q9 => c87 (q4.mpr (Or.inr q9))))], hP3.up (hf4.tr q3)⟩)
      refine mx_iconstN 0 dX9_runScript_57 (by decide) ?_
      refine mx_istoreE (i := 4) (ls' := [some (.ref a), some (.int (nI nn)), some (.long (lN r)), none, some (.int (nI 0))]) (hd := dX9_runScript_58) (hn := by decide) (hok := rfl) (hls := rfl) ?_
      exact L60 _ 0 (zG z) _ (Nat.lt_succ_self _) (Nat.zero_le _) (by rw [Nat.sub_zero]; rfl) hD3 (dfr.rf a I3)
    refine mx_lload_n (i := 2) (hi := rfl) (hl := rfl) (hd := dX9_runScript_19) ?_
    refine mx_lconst (v := 0) (by decide) dX9_runScript_20 ?_
    refine mx_lcmp dX9_runScript_21 ?_
    refine mx_ifR_lt 41 dX9_runScript_22 (by decide) (fun c22 => ?_) (fun c22 => ?_)
    · skip
      have d22 := lgc_lt0.mp c22
      refine mx_iconstN 0 dX9_runScript_41 (by decide) ?_
      refine mx_top (y := mx_b (decide (0 ≤ sc.toInt ∧ sc.toInt < ((100000 ^ nn : Nat) : Int)))) (mx_bF (by first | exact fun q9 => absurd q9.1 (by omega) | exact d34)) ?_
      exact J42 () 
    · skip
      have d22 : ¬ sc.toInt < 0 := fun q => c22 (lgc_lt0.mpr q)
      refine mx_lload_n (i := 2) (hi := rfl) (hl := rfl) (hd := dX9_runScript_25) ?_
      refine mx_topl (y := lN sc.toInt.toNat) (lN_row d22) ?_
      refine mx_iconstN 5 dX9_runScript_26 (by decide) ?_
      refine mx_iload_n (i := 1) (hi := rfl) (hl := rfl) (hd := dX9_runScript_27) ?_
      refine mx_imulN dX9_runScript_28 ?_
      refine mx_callSp (As := [.long (lN sc.toInt.toNat), .int (nI (5 * nn))]) (rest := []) dX9_runScript_29 (ct_without G I sc.toInt.toNat (5 * nn) (lN_63 sc) (by omega)) km_X9_without rfl k_921 k_922 rfl rfl (Nat.le_of_ble_eq_true rfl) (by decide) ?_
      refine mx_topl (y := lN (sc.toInt.toNat / 100000 ^ nn)) (by rw [p10_5]) ?_
      refine mx_lconst (v := 0) (by decide) dX9_runScript_32 ?_
      refine mx_lcmp dX9_runScript_33 ?_
      refine mx_if_ne (tgt := 41) dX9_runScript_34 (by decide) (fun c34 => ?_) (fun c34 => ?_)
      · skip
        have d34 : ¬ (0 ≤ sc.toInt ∧ sc.toInt < ((100000 ^ nn : Nat) : Int)) := fun q9 => c34 ((wo_iff (Nat.pow_pos (by decide : 0 < 100000)) d22).mpr q9)
        refine mx_iconstN 0 dX9_runScript_41 (by decide) ?_
        refine mx_top (y := mx_b (decide (0 ≤ sc.toInt ∧ sc.toInt < ((100000 ^ nn : Nat) : Int)))) (mx_bF (by first | exact fun q9 => absurd q9.1 (by omega) | exact d34)) ?_
        exact J42 () 
      · skip
        have d34 : 0 ≤ sc.toInt ∧ sc.toInt < ((100000 ^ nn : Nat) : Int) := (wo_iff (Nat.pow_pos (by decide : 0 < 100000)) d22).mp c34
        refine mx_iconstN 1 dX9_runScript_37 (by decide) ?_
        refine mx_goto (tgt := 42) dX9_runScript_38 (by decide) ?_
        refine mx_top (y := mx_b (decide (0 ≤ sc.toInt ∧ sc.toInt < ((100000 ^ nn : Nat) : Int)))) (mx_bT (d34)) ?_
        exact J42 () 
  refine mx_iload_n (i := 1) (hi := rfl) (hl := rfl) (hd := dX9_runScript_0) ?_
  refine mx_iconstN 1 dX9_runScript_1 (by decide) ?_
  refine mx_cmpRN_lt 14 dX9_runScript_2 (by decide) (by omega) (fun c2 => ?_) (fun c2 => ?_)
  · skip
    refine mx_iconstN 0 dX9_runScript_14 (by decide) ?_
    refine mx_top (y := mx_b (decide (1 ≤ n.toInt ∧ n.toInt ≤ 3))) (mx_bF (by omega)) ?_
    exact J15 () 
  · skip
    refine mx_iload_n (i := 1) (hi := rfl) (hl := rfl) (hd := dX9_runScript_5) ?_
    refine mx_iconstN 3 dX9_runScript_6 (by decide) ?_
    refine mx_cmpRN_gt 14 dX9_runScript_7 (by decide) (by omega) (fun c7 => ?_) (fun c7 => ?_)
    · skip
      refine mx_iconstN 0 dX9_runScript_14 (by decide) ?_
      refine mx_top (y := mx_b (decide (1 ≤ n.toInt ∧ n.toInt ≤ 3))) (mx_bF (by omega)) ?_
      exact J15 () 
    · skip
      refine mx_iconstN 1 dX9_runScript_10 (by decide) ?_
      refine mx_goto (tgt := 15) dX9_runScript_11 (by decide) ?_
      refine mx_top (y := mx_b (decide (1 ≤ n.toInt ∧ n.toInt ≤ 3))) (mx_bT (by omega)) ?_
      exact J15 () 
