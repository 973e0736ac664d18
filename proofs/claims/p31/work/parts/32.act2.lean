/-! THE METHODS OF StepPaths that change -/
def zPush (z : Zs) : Zs := (z.1, z.2.1, (min (zC z + 1) 14, fun j => if zC z < 14 then (if j = zC z then zX z else zH z j) else (if j = 13 then zX z else zH z (j + 1))), z.2.2.2)
def zSet (z : Zs) (v : Gr) : Zs := (z.1, (v, (zX z).2), z.2.2)
theorem cW.push {G : mx_G} {I I' : mx_I} {a nx pt : Nat} {z : Zs} (h : cW G I a z) (hnx : nx < 14) (h1 : I (a + 47) 1 = nI nx) (hh : ∀ j, j < zC z → stP G I a (a + 49 + 5 * ((nx + 14 - zC z + j) % 14)) (zH z j)) (hr : mx_rf G (a + 37) 6 = pt)
    (m1 : stN I' (a + 47 + 2 + 5 * nx) (zG z)) (m2 : I' (a + 47) 1 = nI ((nx + 1) % 14)) (m3 : I' (a + 47) 2 = nI (min (zC z + 1) 14)) (m4 : ∀ b, b ≠ a + 47 → (b < a + 47 + 2 + 5 * nx ∨ a + 47 + 2 + 5 * nx + 5 ≤ b) → I' b = I b) : cP G I a (zPush z) (mx_uR G (a + 47 + 2 + 5 * nx) 6 pt) I' := by
  obtain ⟨h2, h3, h4, h5, h6⟩ := h
  have ha := h2.2.1
  have hcnt := h5.1
  have htg : mx_tg G (a + 47 + 2 + 5 * nx) = 16 := (h2.1.2.2.2.2.2.2.1.2.2.2.2.2 nx hnx).2.1
  have m : mx_sm G (mx_uR G (a + 47 + 2 + 5 * nx) 6 pt) := (mx_sm.rf G).u6 htg
  have hz : mx_sz G ≤ mx_sz (mx_uR G (a + 47 + 2 + 5 * nx) 6 pt) := Nat.le_refl _
  have f : cFr a G I I' := fun b q1 q2 => m4 b (by omega) (by omega)
  have hrf : ∀ o, o ≠ a + 47 + 2 + 5 * nx → mx_rf (mx_uR G (a + 47 + 2 + 5 * nx) 6 pt) o 6 = mx_rf G o 6 := fun o ho => by rw [mx_rf_uR, if_neg (fun q => ho q.1)]
  refine ⟨⟨h2.k m hz f, h3.k (m4 _ (by omega) (by omega)) (m4 _ (by omega) (by omega)), h4.k ha m hz f (hrf _ (by omega)) (fun b q1 q2 => m4 b (by omega) (by omega)), ⟨by show min (zC z + 1) 14 ≤ 14; omega, (nx + 1) % 14, Nat.mod_lt _ (by decide), m2, m3, fun j hj => ?_⟩, h6.k ha m hz f (fun s hs => hrf _ (by omega)) (fun b q1 q2 => m4 b (by omega) (by omega))⟩, m, hz, f, (rFr.rf a G).u (by omega)⟩
  have hj : j < min (zC z + 1) 14 := hj
  show stP _ I' a (a + 49 + 5 * (((nx + 1) % 14 + 14 - min (zC z + 1) 14 + j) % 14)) (if zC z < 14 then (if j = zC z then zX z else zH z j) else (if j = 13 then zX z else zH z (j + 1)))
  have hnew : stP (mx_uR G (a + 47 + 2 + 5 * nx) 6 pt) I' a (a + 49 + 5 * nx) (zX z) := by
    refine ⟨by rw [show a + 49 + 5 * nx = a + 47 + 2 + 5 * nx by omega]; exact m1, h4.2.1, ?_⟩
    rw [mx_rf_uR, if_pos ⟨by omega, rfl⟩]
    have h7 := h4.2.2
    rw [hr] at h7
    exact h7.k ha m hz f
  have hold : ∀ i x, i < 14 → i ≠ nx → stP G I a (a + 49 + 5 * i) x → stP (mx_uR G (a + 47 + 2 + 5 * nx) 6 pt) I' a (a + 49 + 5 * i) x := fun i x hi hne q => q.k ha m hz f (hrf _ (by omega)) (fun b q1 q2 => m4 b (by omega) (by omega))
  by_cases c : zC z < 14
  · rw [if_pos c]
    by_cases e : j = zC z
    · rw [if_pos e, show ((nx + 1) % 14 + 14 - min (zC z + 1) 14 + j) % 14 = nx by omega]
      exact hnew
    · rw [if_neg e, show ((nx + 1) % 14 + 14 - min (zC z + 1) 14 + j) % 14 = (nx + 14 - zC z + j) % 14 by omega]
      exact hold _ _ (Nat.mod_lt _ (by decide)) (by omega) (hh j (by omega))
  · rw [if_neg c]
    by_cases e : j = 13
    · rw [if_pos e, show ((nx + 1) % 14 + 14 - min (zC z + 1) 14 + j) % 14 = nx by omega]
      exact hnew
    · rw [if_neg e, show ((nx + 1) % 14 + 14 - min (zC z + 1) 14 + j) % 14 = (nx + 14 - zC z + (j + 1)) % 14 by omega]
      exact hold _ _ (Nat.mod_lt _ (by decide)) (by omega) (hh (j + 1) (by omega))
def fl_addPerson (z : Zs) : Nat := if ¬ gP (zG z) < 8 then 3 else 0
def nx_addPerson (z : Zs) : Zs := zSet (zPush z) (gP (zG z) + 1, (zG z).2)

set_option maxHeartbeats 400000 in
set_option maxRecDepth 100000 in
theorem ct_addPerson (G : mx_G) (I : mx_I) (a : Nat) (z : Zs) (hW : cW G I a z) : mx_CT yX9_addPerson mX9_addPerson 8 1 6 [.ref a] G I (fun rv Gz Iz => fl_addPerson z = 0 ∧ rv = some (.int (nI (gP (zG z)))) ∧ cP G I a (nx_addPerson z) Gz Iz) (fun E Gz Iz => (fl_addPerson z) ≠ 0 ∧ E = exN (fl_addPerson z) ∧ cP G I a z Gz Iz) := by
  refine mx_start (k := 0) (by decide) rfl rfl (fun h => nomatch h) (Nat.le_of_ble_eq_true rfl) ?_
  show mx_V mX9_addPerson mx_S0 8 1 6 0 [some (.ref a)] [] G I (fun rv Gz Iz => fl_addPerson z = 0 ∧ rv = some (.int (nI (gP (zG z)))) ∧ cP G I a (nx_addPerson z) Gz Iz) (fun E Gz Iz => (fl_addPerson z) ≠ 0 ∧ E = exN (fl_addPerson z) ∧ cP G I a z Gz Iz)
  have hW0 := hW
  obtain ⟨⟨hSP, hsz, hpe⟩, hTx, hSt, hHi, hSl⟩ := hW
  have oSt : oST G (a + 37) := hSP.2.2.2.2.1.2
  obtain ⟨tg9, ⟨f0, oTx⟩, ⟨f1, oPt⟩, ⟨f2, oRd⟩, ⟨f3, -⟩, ⟨f4, oDr⟩, ⟨f5, oHi⟩, ⟨f6, gSl, lSl, ⟨rq0, oS0⟩, ⟨rq1, oS1⟩⟩, ⟨f7, gFi, lFi⟩, ⟨f8, oSe⟩, ⟨f9, oTr⟩, ⟨f10, oBp⟩⟩ := hSP
  have tg0 : mx_tg G (a + 1) = 17 := oTx.1
  have tg1 : mx_tg G (a + 3) = 12 := oPt.1
  have tg2 : mx_tg G (a + 8) = 13 := oRd.1
  have tg3 : mx_tg G (a + 37) = 16 := oSt.1
  have tg4 : mx_tg G (a + 42) = 16 := oDr.1
  have tg5 : mx_tg G (a + 47) = 11 := oHi.1
  have tg6 : mx_tg G (a + 131) = 15 := oSe.1
  have tg7 : mx_tg G (a + 136) = 15 := oTr.1
  have tg8 : mx_tg G (a + 141) = 10 := oBp.1
  obtain ⟨rT, tT, lT⟩ : mx_rf G (a + 1) 0 = a + 2 ∧ mx_tg G (a + 2) = 2 ∧ mx_ln G (a + 2) = 110 := oTx.2
  have oSt0 : oST G (a + 37) := oSt
  obtain ⟨-, ⟨rF, tF, lF⟩, ⟨rK, tK, lK⟩, ⟨rO, tO, lO⟩, ⟨rC, tC, lC⟩⟩ : mx_tg G (a + 37) = 16 ∧ (mx_rf G (a + 37) 2 = a + 38 ∧ mx_tg G (a + 38) = 1 ∧ mx_ln G (a + 38) = 25) ∧ (mx_rf G (a + 37) 3 = a + 39 ∧ mx_tg G (a + 39) = 1 ∧ mx_ln G (a + 39) = 25) ∧ (mx_rf G (a + 37) 4 = a + 40 ∧ mx_tg G (a + 40) = 1 ∧ mx_ln G (a + 40) = 25) ∧ (mx_rf G (a + 37) 5 = a + 41 ∧ mx_tg G (a + 41) = 1 ∧ mx_ln G (a + 41) = 25) := oSt
  have hSv : stN I (a + 37) (zG z) := hSt.1
  obtain ⟨⟨hP8, hN25, hvb⟩, hs0, hs1, hsF, hsK, hsT, hsC⟩ : stN I (a + 37) (zG z) := hSt.1
  have hN24 : gN (zG z) ≤ 24 := hSt.2.1.1
  have hTx0 := hTx
  obtain ⟨hn110, ht1, htc, htb⟩ : txN I (a + 1) (zN z) (zT z) := hTx
  obtain ⟨hcnt14, nx9, hnx9, hn1, hn2, hhi⟩ := hHi
  obtain ⟨pt9, hpt9⟩ : ∃ pt, mx_rf G (a + 37) 6 = pt := ⟨_, rfl⟩
  have tgp9 : mx_tg G pt9 = 12 := by rw [← hpt9]; exact hW0.2.2.1.2.2.2.2.1.1
  have J17 : ∀ (_ : Unit), mx_V mX9_addPerson mx_S0 8 1 6 17 [some (.ref a)] [.int (mx_b (decide (gP (zG z) < 8)))] G I (fun rv Gz Iz => fl_addPerson z = 0 ∧ rv = some (.int (nI (gP (zG z)))) ∧ cP G I a (nx_addPerson z) Gz Iz) (fun E Gz Iz => (fl_addPerson z) ≠ 0 ∧ E = exN (fl_addPerson z) ∧ cP G I a z Gz Iz) := by
    intro _ 
    refine mx_iconstN 3 dX9_addPerson_17 (by decide) ?_
    refine mx_callS (As := [.int (mx_b (decide (gP (zG z) < 8))), .int (nI 3)]) (rest := []) (b1 := 1) (b2 := 6) dX9_addPerson_18 (ct_require G I (gP (zG z) < 8) 3 (by decide)) km_X9_require rfl k_338 k_339 rfl rfl (Nat.le_of_ble_eq_true rfl) (by decide) (fun E G9 I9 h9 => mx_xo rfl (by have hf : fl_addPerson z = 3 := (by unfold fl_addPerson; rw [if_pos h9.1]); show (fl_addPerson z) ≠ 0 ∧ E = exN (fl_addPerson z) ∧ cP G I a z G9 I9; rw [hf]; exact ⟨by decide, hW0.id.thw h9.2.2⟩)) (fun r1 G3 I2 h4 => ?_)
    obtain ⟨e0, e1, e2, e3⟩ := h4
    have e2 := e2.symm
    subst e1; subst e2; subst e3
    have k3 : gP (zG z) < 8 := e0.resolve_right (by decide)
    clear e0
    refine mx_aload_n (i := 0) (hi := rfl) (hl := rfl) (hd := dX9_addPerson_21) ?_
    refine mx_getR (ci := 9) (k := 5) (r := (a + 47)) dX9_addPerson_22 k_301 (by decide) rfl (by assumption) (by assumption) (by omega) ?_
    refine mx_aload_n (i := 0) (hi := rfl) (hl := rfl) (hd := dX9_addPerson_25) ?_
    refine mx_getR (ci := 9) (k := 3) (r := (a + 37)) dX9_addPerson_26 k_299 (by decide) rfl (by assumption) (by assumption) (by omega) ?_
    refine mx_callV (ci := 1) (As := [.ref (a + 37)]) (rest := []) (b1 := 0) (b2 := 0) dX9_addPerson_29 (ct_remember G I (a + 47) nx9 (zC z) oHi hnx9 hcnt14 hn1 hn2 (a + 37) pt9 _ oSt0 hSv hpt9 tgp9 (by omega)) km_X1_remember rfl k_762 k_763 k_764 (by assumption) rfl rfl (Nat.le_of_ble_eq_true rfl) (by decide) (fun _ _ _ q => q.elim) (fun r5 G2 I2 h6 => ?_)
    obtain ⟨e9, e1, m1, m2, m3, m4⟩ := h6
    subst e9
    have hP1 : cP G I a (zPush z) G2 I2 := by rw [e1]; exact hW0.push hnx9 hn1 hhi hpt9 m1 m2 m3 m4
    clear e1 m1 m2 m3 m4 hSl
    obtain ⟨⟨hSP, hsz, hpe⟩, hTx, hSt, hHi, hSl⟩ := hP1.1
    have oSt : oST G2 (a + 37) := hSP.2.2.2.2.1.2
    obtain ⟨tg9, ⟨f0, oTx⟩, ⟨f1, oPt⟩, ⟨f2, oRd⟩, ⟨f3, -⟩, ⟨f4, oDr⟩, ⟨f5, oHi⟩, ⟨f6, gSl, lSl, ⟨rq0, oS0⟩, ⟨rq1, oS1⟩⟩, ⟨f7, gFi, lFi⟩, ⟨f8, oSe⟩, ⟨f9, oTr⟩, ⟨f10, oBp⟩⟩ := hSP
    have tg0 : mx_tg G2 (a + 1) = 17 := oTx.1
    have tg1 : mx_tg G2 (a + 3) = 12 := oPt.1
    have tg2 : mx_tg G2 (a + 8) = 13 := oRd.1
    have tg3 : mx_tg G2 (a + 37) = 16 := oSt.1
    have tg4 : mx_tg G2 (a + 42) = 16 := oDr.1
    have tg5 : mx_tg G2 (a + 47) = 11 := oHi.1
    have tg6 : mx_tg G2 (a + 131) = 15 := oSe.1
    have tg7 : mx_tg G2 (a + 136) = 15 := oTr.1
    have tg8 : mx_tg G2 (a + 141) = 10 := oBp.1
    obtain ⟨rT, tT, lT⟩ : mx_rf G2 (a + 1) 0 = a + 2 ∧ mx_tg G2 (a + 2) = 2 ∧ mx_ln G2 (a + 2) = 110 := oTx.2
    have oSt0 : oST G2 (a + 37) := oSt
    obtain ⟨-, ⟨rF, tF, lF⟩, ⟨rK, tK, lK⟩, ⟨rO, tO, lO⟩, ⟨rC, tC, lC⟩⟩ : mx_tg G2 (a + 37) = 16 ∧ (mx_rf G2 (a + 37) 2 = a + 38 ∧ mx_tg G2 (a + 38) = 1 ∧ mx_ln G2 (a + 38) = 25) ∧ (mx_rf G2 (a + 37) 3 = a + 39 ∧ mx_tg G2 (a + 39) = 1 ∧ mx_ln G2 (a + 39) = 25) ∧ (mx_rf G2 (a + 37) 4 = a + 40 ∧ mx_tg G2 (a + 40) = 1 ∧ mx_ln G2 (a + 40) = 25) ∧ (mx_rf G2 (a + 37) 5 = a + 41 ∧ mx_tg G2 (a + 41) = 1 ∧ mx_ln G2 (a + 41) = 25) := oSt
    have hSv : stN I2 (a + 37) (zG z) := hSt.1
    obtain ⟨⟨hP8, hN25, hvb⟩, hs0, hs1, hsF, hsK, hsT, hsC⟩ : stN I2 (a + 37) (zG z) := hSt.1
    have hN24 : gN (zG z) ≤ 24 := hSt.2.1.1
    have hTx0 := hTx
    obtain ⟨hn110, ht1, htc, htb⟩ : txN I2 (a + 1) (zN z) (zT z) := hTx
    refine mx_aload_n (i := 0) (hi := rfl) (hl := rfl) (hd := dX9_addPerson_32) ?_
    refine mx_getR (ci := 9) (k := 3) (r := (a + 37)) dX9_addPerson_33 k_299 (by decide) rfl (by assumption) (by assumption) (by omega) ?_
    refine mx_dup (hva := rfl) (hd := dX9_addPerson_36) ?_
    refine mx_getV (ci := 6) (k := 0) (nI (gP (zG z))) dX9_addPerson_37 k_167 (by decide) rfl (by assumption) hs0 ?_
    refine mx_iconstN 1 dX9_addPerson_40 (by decide) ?_
    refine mx_iaddN dX9_addPerson_41 ?_
    refine mx_putI (ci := 6) (k := 0) dX9_addPerson_42 k_167 (by decide) rfl rfl rfl rfl (by assumption) ?_
    refine mx_aload_n (i := 0) (hi := rfl) (hl := rfl) (hd := dX9_addPerson_45) ?_
    refine mx_getR (ci := 9) (k := 3) (r := (a + 37)) dX9_addPerson_46 k_299 (by decide) rfl (by assumption) (by assumption) (by omega) ?_
    refine mx_getV (ci := 6) (k := 0) (nI ((gP (zG z)) + 1)) dX9_addPerson_49 k_167 (by decide) rfl (by assumption) (by rw [mx_u_at, if_pos ⟨rfl, rfl⟩]) ?_
    refine mx_iconstN 1 dX9_addPerson_52 (by decide) ?_
    refine mx_isubN dX9_addPerson_53 (by omega) ?_
    refine mx_iret dX9_addPerson_54 rfl rfl (⟨by unfold fl_addPerson; rw [if_neg (fun q => q k3)], rfl, hP1.tr (hP1.1.stI (v := (gP (zG z) + 1, (zG z).2)) ((mx_fr.rf _ _ _).u (by omega)) ⟨⟨by show gP (zG z) + 1 ≤ 8; omega, hN25, hvb⟩, ?_, ?_, ?_, ?_, ?_, ?_⟩ hN24)⟩)
    · rw [mx_u_at, if_pos ⟨rfl, rfl⟩]
    · rw [mx_u_at, if_neg (by omega)]; exact hs1
    · exact hsF.o (by omega)
    · exact hsK.o (by omega)
    · exact hsT.o (by omega)
    · exact hsC.o (by omega)
  refine mx_aload_n (i := 0) (hi := rfl) (hl := rfl) (hd := dX9_addPerson_0) ?_
  refine mx_getR (ci := 9) (k := 3) (r := (a + 37)) dX9_addPerson_1 k_299 (by decide) rfl (by assumption) (by assumption) (by omega) ?_
  refine mx_getV (ci := 6) (k := 0) (nI (gP (zG z))) dX9_addPerson_4 k_167 (by decide) rfl (by assumption) hs0 ?_
  refine mx_bipushN 8 dX9_addPerson_7 (by decide) ?_
  refine mx_cmpN_ge 16 dX9_addPerson_9 (by decide) (by omega) (by omega) (fun c9 => ?_) (fun c9 => ?_)
  · skip
    refine mx_iconstN 0 dX9_addPerson_16 (by decide) ?_
    refine mx_top (y := mx_b (decide (gP (zG z) < 8))) (mx_bF (by omega)) ?_
    exact J17 () 
  · skip
    refine mx_iconstN 1 dX9_addPerson_12 (by decide) ?_
    refine mx_goto (tgt := 17) dX9_addPerson_13 (by decide) ?_
    refine mx_top (y := mx_b (decide (gP (zG z) < 8))) (mx_bT (by omega)) ?_
    exact J17 () 

theorem gWhy_le (v : Gr) (p k q c : Int32) : gWhy v p k q c ≤ 3 := by
  unfold gWhy
  split
  · decide
  · split
    · decide
    · split <;> decide
theorem gWhy_0 {v : Gr} {p k q c : Int32} (h : gWhy v p k q c = 0) : ((0 ≤ p.toInt ∧ p.toInt < (gP v : Int)) ∧ (0 ≤ q.toInt ∧ q.toInt < (gP v : Int))) ∧ ¬ p = q ∧ (0 ≤ k.toInt ∧ k.toInt < 4) ∧ (1 ≤ c.toInt ∧ c.toInt ≤ 9) ∧ gIx v p.toInt.toNat k.toInt.toNat q.toInt.toNat = none ∧ gN v < 24 := by
  unfold gWhy at h
  split at h
  · cases h
  · next c1 =>
    split at h
    · cases h
    · next c2 =>
      split at h
      · cases h
      · next c3 =>
        have c1 := Classical.not_not.mp c1
        refine ⟨c1, fun q => c2 (Or.inl q), ?_, ?_, ?_, ?_⟩
        · exact Classical.not_not.mp (fun q => c2 (Or.inr (Or.inl q)))
        · exact Classical.not_not.mp (fun q => c2 (Or.inr (Or.inr q)))
        · exact Classical.not_not.mp (fun q => c3 (Or.inl q))
        · exact Nat.lt_of_not_le (fun q => c3 (Or.inr q))
def nx_addStep (z : Zs) (p k q c : Nat) : Zs := zSet (zPush z) (gPut (zG z) p k q c)
def gCost (v : Gr) (i c : Nat) : Gr := (gP v, gN v, gF v, gK v, gT v, fun s => if s = i then c else gC v s)
theorem mx_in4 {p : Int32} (h : 0 ≤ p.toInt) : p = nI p.toInt.toNat := (mx_nn h).symm

set_option maxHeartbeats 400000 in
set_option maxRecDepth 100000 in
theorem ct_addStep (G : mx_G) (I : mx_I) (a : Nat) (z : Zs) (hW : cW G I a z) (p k q c : Int32) : mx_CT yX9_addStep mX9_addStep 8 1 6 [.ref a, .int p, .int k, .int q, .int c] G I (fun rv Gz Iz => gWhy (zG z) p k q c = 0 ∧ rv = some (.int (nI (gN (zG z)))) ∧ cP G I a (nx_addStep z p.toInt.toNat k.toInt.toNat q.toInt.toNat c.toInt.toNat) Gz Iz) (fun E Gz Iz => (gWhy (zG z) p k q c) ≠ 0 ∧ E = exN (gWhy (zG z) p k q c) ∧ cP G I a z Gz Iz) := by
  refine mx_start (k := 0) (by decide) rfl rfl (fun h => nomatch h) (Nat.le_of_ble_eq_true rfl) ?_
  show mx_V mX9_addStep mx_S0 8 1 6 0 [some (.ref a), some (.int p), some (.int k), some (.int q), some (.int c)] [] G I (fun rv Gz Iz => gWhy (zG z) p k q c = 0 ∧ rv = some (.int (nI (gN (zG z)))) ∧ cP G I a (nx_addStep z p.toInt.toNat k.toInt.toNat q.toInt.toNat c.toInt.toNat) Gz Iz) (fun E Gz Iz => (gWhy (zG z) p k q c) ≠ 0 ∧ E = exN (gWhy (zG z) p k q c) ∧ cP G I a z Gz Iz)
  have hW0 := hW
  obtain ⟨⟨hSP, hsz, hpe⟩, hTx, hSt, hHi, hSl⟩ := hW
  have oSt : oST G (a + 37) := hSP.2.2.2.2.1.2
  obtain ⟨tg9, ⟨f0, oTx⟩, ⟨f1, oPt⟩, ⟨f2, oRd⟩, ⟨f3, -⟩, ⟨f4, oDr⟩, ⟨f5, oHi⟩, ⟨f6, gSl, lSl, ⟨rq0, oS0⟩, ⟨rq1, oS1⟩⟩, ⟨f7, gFi, lFi⟩, ⟨f8, oSe⟩, ⟨f9, oTr⟩, ⟨f10, oBp⟩⟩ := hSP
  have tg0 : mx_tg G (a + 1) = 17 := oTx.1
  have tg1 : mx_tg G (a + 3) = 12 := oPt.1
  have tg2 : mx_tg G (a + 8) = 13 := oRd.1
  have tg3 : mx_tg G (a + 37) = 16 := oSt.1
  have tg4 : mx_tg G (a + 42) = 16 := oDr.1
  have tg5 : mx_tg G (a + 47) = 11 := oHi.1
  have tg6 : mx_tg G (a + 131) = 15 := oSe.1
  have tg7 : mx_tg G (a + 136) = 15 := oTr.1
  have tg8 : mx_tg G (a + 141) = 10 := oBp.1
  obtain ⟨rT, tT, lT⟩ : mx_rf G (a + 1) 0 = a + 2 ∧ mx_tg G (a + 2) = 2 ∧ mx_ln G (a + 2) = 110 := oTx.2
  have oSt0 : oST G (a + 37) := oSt
  obtain ⟨-, ⟨rF, tF, lF⟩, ⟨rK, tK, lK⟩, ⟨rO, tO, lO⟩, ⟨rC, tC, lC⟩⟩ : mx_tg G (a + 37) = 16 ∧ (mx_rf G (a + 37) 2 = a + 38 ∧ mx_tg G (a + 38) = 1 ∧ mx_ln G (a + 38) = 25) ∧ (mx_rf G (a + 37) 3 = a + 39 ∧ mx_tg G (a + 39) = 1 ∧ mx_ln G (a + 39) = 25) ∧ (mx_rf G (a + 37) 4 = a + 40 ∧ mx_tg G (a + 40) = 1 ∧ mx_ln G (a + 40) = 25) ∧ (mx_rf G (a + 37) 5 = a + 41 ∧ mx_tg G (a + 41) = 1 ∧ mx_ln G (a + 41) = 25) := oSt
  have hSv : stN I (a + 37) (zG z) := hSt.1
  obtain ⟨⟨hP8, hN25, hvb⟩, hs0, hs1, hsF, hsK, hsT, hsC⟩ : stN I (a + 37) (zG z) := hSt.1
  have hN24 : gN (zG z) ≤ 24 := hSt.2.1.1
  have hTx0 := hTx
  obtain ⟨hn110, ht1, htc, htb⟩ : txN I (a + 1) (zN z) (zT z) := hTx
  obtain ⟨hcnt14, nx9, hnx9, hn1, hn2, hhi⟩ := hHi
  obtain ⟨pt9, hpt9⟩ : ∃ pt, mx_rf G (a + 37) 6 = pt := ⟨_, rfl⟩
  have tgp9 : mx_tg G pt9 = 12 := by rw [← hpt9]; exact hW0.2.2.1.2.2.2.2.1.1
  refine mx_aload_n (i := 0) (hi := rfl) (hl := rfl) (hd := dX9_addStep_0) ?_
  refine mx_getR (ci := 9) (k := 3) (r := (a + 37)) dX9_addStep_1 k_299 (by decide) rfl (by assumption) (by assumption) (by omega) ?_
  refine mx_iload_n (i := 1) (hi := rfl) (hl := rfl) (hd := dX9_addStep_4) ?_
  refine mx_iload_n (i := 2) (hi := rfl) (hl := rfl) (hd := dX9_addStep_5) ?_
  refine mx_iload_n (i := 3) (hi := rfl) (hl := rfl) (hd := dX9_addStep_6) ?_
  refine mx_iload (i := 4) (hl := rfl) (hd := dX9_addStep_7) ?_
  refine mx_callVp (ci := 6) (As := [.int p, .int k, .int q, .int c]) (rest := []) dX9_addStep_9 (ct_faultOfAdding G I (a + 37) _ oSt0 hSv p k q c) km_X6_faultOfAdding rfl k_461 k_462 k_463 (by assumption) rfl rfl (Nat.le_of_ble_eq_true rfl) (by decide) ?_
  refine mx_callS (As := [.int (nI (gWhy (zG z) p k q c))]) (rest := []) (b1 := 1) (b2 := 6) dX9_addStep_12 (ct_refuse G I (gWhy (zG z) p k q c) (gWhy_le _ _ _ _ _)) km_X9_refuse rfl k_341 k_342 rfl rfl (Nat.le_of_ble_eq_true rfl) (by decide) (fun E G9 I9 h9 => mx_xo rfl ⟨h9.1, hW0.id.thw h9.2⟩) (fun r1 G3 I2 h4 => ?_)
  obtain ⟨k0, e1, e2, e3⟩ := h4
  have e2 := e2.symm
  subst e1; subst e2; subst e3
  obtain ⟨k1, k2, k3, k4, k5, k6⟩ := gWhy_0 k0
  refine mx_aload_n (i := 0) (hi := rfl) (hl := rfl) (hd := dX9_addStep_15) ?_
  refine mx_getR (ci := 9) (k := 5) (r := (a + 47)) dX9_addStep_16 k_301 (by decide) rfl (by assumption) (by assumption) (by omega) ?_
  refine mx_aload_n (i := 0) (hi := rfl) (hl := rfl) (hd := dX9_addStep_19) ?_
  refine mx_getR (ci := 9) (k := 3) (r := (a + 37)) dX9_addStep_20 k_299 (by decide) rfl (by assumption) (by assumption) (by omega) ?_
  refine mx_callV (ci := 1) (As := [.ref (a + 37)]) (rest := []) (b1 := 0) (b2 := 0) dX9_addStep_23 (ct_remember G I (a + 47) nx9 (zC z) oHi hnx9 hcnt14 hn1 hn2 (a + 37) pt9 _ oSt0 hSv hpt9 tgp9 (by omega)) km_X1_remember rfl k_762 k_763 k_764 (by assumption) rfl rfl (Nat.le_of_ble_eq_true rfl) (by decide) (fun _ _ _ q => q.elim) (fun r5 G2 I2 h6 => ?_)
  obtain ⟨e9, e1, m1, m2, m3, m4⟩ := h6
  subst e9
  have hP1 : cP G I a (zPush z) G2 I2 := by rw [e1]; exact hW0.push hnx9 hn1 hhi hpt9 m1 m2 m3 m4
  clear e1 m1 m2 m3 m4 hSl
  obtain ⟨⟨hSP, hsz, hpe⟩, hTx, hSt, hHi, hSl⟩ := hP1.1
  have oSt : oST G2 (a + 37) := hSP.2.2.2.2.1.2
  obtain ⟨tg9, ⟨f0, oTx⟩, ⟨f1, oPt⟩, ⟨f2, oRd⟩, ⟨f3, -⟩, ⟨f4, oDr⟩, ⟨f5, oHi⟩, ⟨f6, gSl, lSl, ⟨rq0, oS0⟩, ⟨rq1, oS1⟩⟩, ⟨f7, gFi, lFi⟩, ⟨f8, oSe⟩, ⟨f9, oTr⟩, ⟨f10, oBp⟩⟩ := hSP
  have tg0 : mx_tg G2 (a + 1) = 17 := oTx.1
  have tg1 : mx_tg G2 (a + 3) = 12 := oPt.1
  have tg2 : mx_tg G2 (a + 8) = 13 := oRd.1
  have tg3 : mx_tg G2 (a + 37) = 16 := oSt.1
  have tg4 : mx_tg G2 (a + 42) = 16 := oDr.1
  have tg5 : mx_tg G2 (a + 47) = 11 := oHi.1
  have tg6 : mx_tg G2 (a + 131) = 15 := oSe.1
  have tg7 : mx_tg G2 (a + 136) = 15 := oTr.1
  have tg8 : mx_tg G2 (a + 141) = 10 := oBp.1
  obtain ⟨rT, tT, lT⟩ : mx_rf G2 (a + 1) 0 = a + 2 ∧ mx_tg G2 (a + 2) = 2 ∧ mx_ln G2 (a + 2) = 110 := oTx.2
  have oSt0 : oST G2 (a + 37) := oSt
  obtain ⟨-, ⟨rF, tF, lF⟩, ⟨rK, tK, lK⟩, ⟨rO, tO, lO⟩, ⟨rC, tC, lC⟩⟩ : mx_tg G2 (a + 37) = 16 ∧ (mx_rf G2 (a + 37) 2 = a + 38 ∧ mx_tg G2 (a + 38) = 1 ∧ mx_ln G2 (a + 38) = 25) ∧ (mx_rf G2 (a + 37) 3 = a + 39 ∧ mx_tg G2 (a + 39) = 1 ∧ mx_ln G2 (a + 39) = 25) ∧ (mx_rf G2 (a + 37) 4 = a + 40 ∧ mx_tg G2 (a + 40) = 1 ∧ mx_ln G2 (a + 40) = 25) ∧ (mx_rf G2 (a + 37) 5 = a + 41 ∧ mx_tg G2 (a + 41) = 1 ∧ mx_ln G2 (a + 41) = 25) := oSt
  have hSv : stN I2 (a + 37) (zG z) := hSt.1
  obtain ⟨⟨hP8, hN25, hvb⟩, hs0, hs1, hsF, hsK, hsT, hsC⟩ : stN I2 (a + 37) (zG z) := hSt.1
  have hN24 : gN (zG z) ≤ 24 := hSt.2.1.1
  have hTx0 := hTx
  obtain ⟨hn110, ht1, htc, htb⟩ : txN I2 (a + 1) (zN z) (zT z) := hTx
  refine mx_aload_n (i := 0) (hi := rfl) (hl := rfl) (hd := dX9_addStep_26) ?_
  refine mx_getR (ci := 9) (k := 3) (r := (a + 37)) dX9_addStep_27 k_299 (by decide) rfl (by assumption) (by assumption) (by omega) ?_
  refine mx_iload_n (i := 1) (hi := rfl) (hl := rfl) (hd := dX9_addStep_30) ?_
  refine mx_iload_n (i := 2) (hi := rfl) (hl := rfl) (hd := dX9_addStep_31) ?_
  refine mx_iload_n (i := 3) (hi := rfl) (hl := rfl) (hd := dX9_addStep_32) ?_
  refine mx_iload (i := 4) (hl := rfl) (hd := dX9_addStep_33) ?_
  refine mx_callVi (ci := 6) (As := [.int p, .int k, .int q, .int c]) (rest := []) dX9_addStep_35 ((ct_put G2 I2 (a + 37) _ oSt0 hSv p.toInt.toNat k.toInt.toNat q.toInt.toNat c.toInt.toNat (by omega) (by omega) (by omega) (by omega) hN24).eq (by rw [mx_nn k1.1.1, mx_nn k3.1, mx_nn k1.2.1, mx_nn (by omega : 0 ≤ c.toInt)])) km_X6_put rfl k_483 k_484 k_485 (by assumption) rfl rfl (Nat.le_of_ble_eq_true rfl) (by decide) (fun r7 I3 h8 => ?_)
  obtain ⟨e9, n1, n2⟩ := h8
  subst e9
  exact mx_iret dX9_addStep_38 rfl rfl (⟨k0, rfl, hP1.tr (hP1.1.stI n2 n1 (by show gN (zG z) + 1 ≤ 24; omega))⟩)

def fl_one (n : Nat) (s : Int32) : Nat := if ¬ (0 ≤ s.toInt ∧ s.toInt < (n : Int)) then 1 else 0
def nx_removeStep (z : Zs) (s : Nat) : Zs := zSet (zPush z) (gDrop (zG z) s)

set_option maxHeartbeats 400000 in
set_option maxRecDepth 100000 in
theorem ct_removeStep (G : mx_G) (I : mx_I) (a : Nat) (z : Zs) (hW : cW G I a z) (s : Int32) : mx_CT yX9_removeStep mX9_removeStep 8 1 6 [.ref a, .int s] G I (fun rv Gz Iz => fl_one (gN (zG z)) s = 0 ∧ rv = some (.int (nI (gN (zG z) - 1))) ∧ cP G I a (nx_removeStep z s.toInt.toNat) Gz Iz) (fun E Gz Iz => (fl_one (gN (zG z)) s) ≠ 0 ∧ E = exN (fl_one (gN (zG z)) s) ∧ cP G I a z Gz Iz) := by
  refine mx_start (k := 0) (by decide) rfl rfl (fun h => nomatch h) (Nat.le_of_ble_eq_true rfl) ?_
  show mx_V mX9_removeStep mx_S0 8 1 6 0 [some (.ref a), some (.int s)] [] G I (fun rv Gz Iz => fl_one (gN (zG z)) s = 0 ∧ rv = some (.int (nI (gN (zG z) - 1))) ∧ cP G I a (nx_removeStep z s.toInt.toNat) Gz Iz) (fun E Gz Iz => (fl_one (gN (zG z)) s) ≠ 0 ∧ E = exN (fl_one (gN (zG z)) s) ∧ cP G I a z Gz Iz)
  have hW0 := hW
  obtain ⟨⟨hSP, hsz, hpe⟩, hTx, hSt, hHi, hSl⟩ := hW
  have oSt : oST G (a + 37) := hSP.2.2.2.2.1.2
  obtain ⟨tg9, ⟨f0, oTx⟩, ⟨f1, oPt⟩, ⟨f2, oRd⟩, ⟨f3, -⟩, ⟨f4, oDr⟩, ⟨f5, oHi⟩, ⟨f6, gSl, lSl, ⟨rq0, oS0⟩, ⟨rq1, oS1⟩⟩, ⟨f7, gFi, lFi⟩, ⟨f8, oSe⟩, ⟨f9, oTr⟩, ⟨f10, oBp⟩⟩ := hSP
  have tg0 : mx_tg G (a + 1) = 17 := oTx.1
  have tg1 : mx_tg G (a + 3) = 12 := oPt.1
  have tg2 : mx_tg G (a + 8) = 13 := oRd.1
  have tg3 : mx_tg G (a + 37) = 16 := oSt.1
  have tg4 : mx_tg G (a + 42) = 16 := oDr.1
  have tg5 : mx_tg G (a + 47) = 11 := oHi.1
  have tg6 : mx_tg G (a + 131) = 15 := oSe.1
  have tg7 : mx_tg G (a + 136) = 15 := oTr.1
  have tg8 : mx_tg G (a + 141) = 10 := oBp.1
  obtain ⟨rT, tT, lT⟩ : mx_rf G (a + 1) 0 = a + 2 ∧ mx_tg G (a + 2) = 2 ∧ mx_ln G (a + 2) = 110 := oTx.2
  have oSt0 : oST G (a + 37) := oSt
  obtain ⟨-, ⟨rF, tF, lF⟩, ⟨rK, tK, lK⟩, ⟨rO, tO, lO⟩, ⟨rC, tC, lC⟩⟩ : mx_tg G (a + 37) = 16 ∧ (mx_rf G (a + 37) 2 = a + 38 ∧ mx_tg G (a + 38) = 1 ∧ mx_ln G (a + 38) = 25) ∧ (mx_rf G (a + 37) 3 = a + 39 ∧ mx_tg G (a + 39) = 1 ∧ mx_ln G (a + 39) = 25) ∧ (mx_rf G (a + 37) 4 = a + 40 ∧ mx_tg G (a + 40) = 1 ∧ mx_ln G (a + 40) = 25) ∧ (mx_rf G (a + 37) 5 = a + 41 ∧ mx_tg G (a + 41) = 1 ∧ mx_ln G (a + 41) = 25) := oSt
  have hSv : stN I (a + 37) (zG z) := hSt.1
  obtain ⟨⟨hP8, hN25, hvb⟩, hs0, hs1, hsF, hsK, hsT, hsC⟩ : stN I (a + 37) (zG z) := hSt.1
  have hN24 : gN (zG z) ≤ 24 := hSt.2.1.1
  have hTx0 := hTx
  obtain ⟨hn110, ht1, htc, htb⟩ : txN I (a + 1) (zN z) (zT z) := hTx
  obtain ⟨hcnt14, nx9, hnx9, hn1, hn2, hhi⟩ := hHi
  obtain ⟨pt9, hpt9⟩ : ∃ pt, mx_rf G (a + 37) 6 = pt := ⟨_, rfl⟩
  have tgp9 : mx_tg G pt9 = 12 := by rw [← hpt9]; exact hW0.2.2.1.2.2.2.2.1.1
  refine mx_aload_n (i := 0) (hi := rfl) (hl := rfl) (hd := dX9_removeStep_0) ?_
  refine mx_getR (ci := 9) (k := 3) (r := (a + 37)) dX9_removeStep_1 k_299 (by decide) rfl (by assumption) (by assumption) (by omega) ?_
  refine mx_iload_n (i := 1) (hi := rfl) (hl := rfl) (hd := dX9_removeStep_4) ?_
  refine mx_callVp (ci := 6) (As := [.int s]) (rest := []) dX9_removeStep_5 (ct_hasStep G I (a + 37) _ oSt0 hSv s) km_X6_hasStep rfl k_491 k_492 k_493 (by assumption) rfl rfl (Nat.le_of_ble_eq_true rfl) (by decide) ?_
  refine mx_iconstN 1 dX9_removeStep_8 (by decide) ?_
  refine mx_callS (As := [.int (mx_b (decide (0 ≤ s.toInt ∧ s.toInt < (gN (zG z) : Int)))), .int (nI 1)]) (rest := []) (b1 := 1) (b2 := 6) dX9_removeStep_9 (ct_require G I (0 ≤ s.toInt ∧ s.toInt < (gN (zG z) : Int)) 1 (by decide)) km_X9_require rfl k_338 k_339 rfl rfl (Nat.le_of_ble_eq_true rfl) (by decide) (fun E G9 I9 h9 => mx_xo rfl (by have hf : fl_one (gN (zG z)) s = 1 := (by unfold fl_one; rw [if_pos h9.1]); show (fl_one (gN (zG z)) s) ≠ 0 ∧ E = exN (fl_one (gN (zG z)) s) ∧ cP G I a z G9 I9; rw [hf]; exact ⟨by decide, hW0.id.thw h9.2.2⟩)) (fun r1 G3 I2 h4 => ?_)
  obtain ⟨e0, e1, e2, e3⟩ := h4
  have e2 := e2.symm
  subst e1; subst e2; subst e3
  have k1 : 0 ≤ s.toInt ∧ s.toInt < (gN (zG z) : Int) := e0.resolve_right (by decide)
  clear e0
  refine mx_aload_n (i := 0) (hi := rfl) (hl := rfl) (hd := dX9_removeStep_12) ?_
  refine mx_getR (ci := 9) (k := 5) (r := (a + 47)) dX9_removeStep_13 k_301 (by decide) rfl (by assumption) (by assumption) (by omega) ?_
  refine mx_aload_n (i := 0) (hi := rfl) (hl := rfl) (hd := dX9_removeStep_16) ?_
  refine mx_getR (ci := 9) (k := 3) (r := (a + 37)) dX9_removeStep_17 k_299 (by decide) rfl (by assumption) (by assumption) (by omega) ?_
  refine mx_callV (ci := 1) (As := [.ref (a + 37)]) (rest := []) (b1 := 0) (b2 := 0) dX9_removeStep_20 (ct_remember G I (a + 47) nx9 (zC z) oHi hnx9 hcnt14 hn1 hn2 (a + 37) pt9 _ oSt0 hSv hpt9 tgp9 (by omega)) km_X1_remember rfl k_762 k_763 k_764 (by assumption) rfl rfl (Nat.le_of_ble_eq_true rfl) (by decide) (fun _ _ _ q => q.elim) (fun r5 G2 I2 h6 => ?_)
  obtain ⟨e9, e1, m1, m2, m3, m4⟩ := h6
  subst e9
  have hP1 : cP G I a (zPush z) G2 I2 := by rw [e1]; exact hW0.push hnx9 hn1 hhi hpt9 m1 m2 m3 m4
  clear e1 m1 m2 m3 m4 hSl
  obtain ⟨⟨hSP, hsz, hpe⟩, hTx, hSt, hHi, hSl⟩ := hP1.1
  have oSt : oST G2 (a + 37) := hSP.2.2.2.2.1.2
  obtain ⟨tg9, ⟨f0, oTx⟩, ⟨f1, oPt⟩, ⟨f2, oRd⟩, ⟨f3, -⟩, ⟨f4, oDr⟩, ⟨f5, oHi⟩, ⟨f6, gSl, lSl, ⟨rq0, oS0⟩, ⟨rq1, oS1⟩⟩, ⟨f7, gFi, lFi⟩, ⟨f8, oSe⟩, ⟨f9, oTr⟩, ⟨f10, oBp⟩⟩ := hSP
  have tg0 : mx_tg G2 (a + 1) = 17 := oTx.1
  have tg1 : mx_tg G2 (a + 3) = 12 := oPt.1
  have tg2 : mx_tg G2 (a + 8) = 13 := oRd.1
  have tg3 : mx_tg G2 (a + 37) = 16 := oSt.1
  have tg4 : mx_tg G2 (a + 42) = 16 := oDr.1
  have tg5 : mx_tg G2 (a + 47) = 11 := oHi.1
  have tg6 : mx_tg G2 (a + 131) = 15 := oSe.1
  have tg7 : mx_tg G2 (a + 136) = 15 := oTr.1
  have tg8 : mx_tg G2 (a + 141) = 10 := oBp.1
  obtain ⟨rT, tT, lT⟩ : mx_rf G2 (a + 1) 0 = a + 2 ∧ mx_tg G2 (a + 2) = 2 ∧ mx_ln G2 (a + 2) = 110 := oTx.2
  have oSt0 : oST G2 (a + 37) := oSt
  obtain ⟨-, ⟨rF, tF, lF⟩, ⟨rK, tK, lK⟩, ⟨rO, tO, lO⟩, ⟨rC, tC, lC⟩⟩ : mx_tg G2 (a + 37) = 16 ∧ (mx_rf G2 (a + 37) 2 = a + 38 ∧ mx_tg G2 (a + 38) = 1 ∧ mx_ln G2 (a + 38) = 25) ∧ (mx_rf G2 (a + 37) 3 = a + 39 ∧ mx_tg G2 (a + 39) = 1 ∧ mx_ln G2 (a + 39) = 25) ∧ (mx_rf G2 (a + 37) 4 = a + 40 ∧ mx_tg G2 (a + 40) = 1 ∧ mx_ln G2 (a + 40) = 25) ∧ (mx_rf G2 (a + 37) 5 = a + 41 ∧ mx_tg G2 (a + 41) = 1 ∧ mx_ln G2 (a + 41) = 25) := oSt
  have hSv : stN I2 (a + 37) (zG z) := hSt.1
  obtain ⟨⟨hP8, hN25, hvb⟩, hs0, hs1, hsF, hsK, hsT, hsC⟩ : stN I2 (a + 37) (zG z) := hSt.1
  have hN24 : gN (zG z) ≤ 24 := hSt.2.1.1
  have hTx0 := hTx
  obtain ⟨hn110, ht1, htc, htb⟩ : txN I2 (a + 1) (zN z) (zT z) := hTx
  refine mx_aload_n (i := 0) (hi := rfl) (hl := rfl) (hd := dX9_removeStep_23) ?_
  refine mx_getR (ci := 9) (k := 3) (r := (a + 37)) dX9_removeStep_24 k_299 (by decide) rfl (by assumption) (by assumption) (by omega) ?_
  refine mx_iload_n (i := 1) (hi := rfl) (hl := rfl) (hd := dX9_removeStep_27) ?_
  refine mx_callVi (ci := 6) (As := [.int s]) (rest := []) dX9_removeStep_28 ((ct_drop G2 I2 (a + 37) _ oSt0 hSv s.toInt.toNat (by omega)).eq (by rw [mx_nn k1.1])) km_X6_drop rfl k_495 k_496 k_497 (by assumption) rfl rfl (Nat.le_of_ble_eq_true rfl) (by decide) (fun r7 I3 h8 => ?_)
  obtain ⟨e9, n1, n2⟩ := h8
  subst e9
  refine mx_aload_n (i := 0) (hi := rfl) (hl := rfl) (hd := dX9_removeStep_31) ?_
  refine mx_getR (ci := 9) (k := 3) (r := (a + 37)) dX9_removeStep_32 k_299 (by decide) rfl (by assumption) (by assumption) (by omega) ?_
  refine mx_getV (ci := 6) (k := 1) (nI (gN (zG z) - 1)) dX9_removeStep_35 k_170 (by decide) rfl (by assumption) n1.2.2.1 ?_
  exact mx_iret dX9_removeStep_38 rfl rfl (⟨by unfold fl_one; rw [if_neg (fun q => q k1)], rfl, hP1.tr (hP1.1.stI n2 n1 (by show gN (zG z) - 1 ≤ 24; omega))⟩)

def fl_setCost (z : Zs) (s c : Int32) : Nat := if ¬ (0 ≤ s.toInt ∧ s.toInt < (gN (zG z) : Int)) then 1 else if 1 ≤ c.toInt ∧ c.toInt ≤ 9 then 0 else 2
def nx_setCost (z : Zs) (s c : Nat) : Zs := zSet (zPush z) (gCost (zG z) s c)
theorem fl_setCost_le (z : Zs) (s c : Int32) : fl_setCost z s c ≤ 3 := by
  unfold fl_setCost
  split
  · decide
  · split <;> decide
theorem fl_setCost_0 {z : Zs} {s c : Int32} (h : fl_setCost z s c = 0) : (0 ≤ s.toInt ∧ s.toInt < (gN (zG z) : Int)) ∧ (1 ≤ c.toInt ∧ c.toInt ≤ 9) := by
  unfold fl_setCost at h
  split at h
  · cases h
  · next c1 =>
    split at h
    · next c2 => exact ⟨Classical.not_not.mp c1, c2⟩
    · cases h
theorem wfG.cost {v : Gr} (h : wfG v) (i : Nat) {c : Nat} (hc : 1 ≤ c ∧ c ≤ 9) : wfG (gCost v i c) := by
  obtain ⟨h1, h2, h3⟩ := h
  refine ⟨h1, h2, fun s hs => ?_⟩
  have h4 := h3 s hs
  show gF v s < 8 ∧ gK v s < 4 ∧ gT v s < 8 ∧ 1 ≤ (if s = i then c else gC v s) ∧ (if s = i then c else gC v s) ≤ 9
  split <;> omega
def fl_turn (z : Zs) (s : Int32) : Nat := if ¬ (0 ≤ s.toInt ∧ s.toInt < (gN (zG z) : Int)) then 1 else if gIx (zG z) (gT (zG z) s.toInt.toNat) (gK (zG z) s.toInt.toNat) (gF (zG z) s.toInt.toNat) = none then 0 else 3
theorem fl_turn_le (z : Zs) (s : Int32) : fl_turn z s ≤ 3 := by
  unfold fl_turn
  split
  · decide
  · split <;> decide
theorem fl_turn_0 {z : Zs} {s : Int32} (h : fl_turn z s = 0) : (0 ≤ s.toInt ∧ s.toInt < (gN (zG z) : Int)) ∧ gIx (zG z) (gT (zG z) s.toInt.toNat) (gK (zG z) s.toInt.toNat) (gF (zG z) s.toInt.toNat) = none := by
  unfold fl_turn at h
  split at h
  · cases h
  · next c1 =>
    split at h
    · next c2 => exact ⟨Classical.not_not.mp c1, c2⟩
    · cases h
def nx_turn (z : Zs) (s : Nat) : Zs := zSet (zPush z) (gRev (zG z) s)
def fl_exchange (k l : Int32) : Nat := if ¬ ((0 ≤ k.toInt ∧ k.toInt < 4) ∧ (0 ≤ l.toInt ∧ l.toInt < 4)) then 2 else 0
def nx_exchange (z : Zs) (k l : Nat) : Zs := zSet (zPush z) (gSwp (zG z) k l)

set_option maxHeartbeats 400000 in
set_option maxRecDepth 100000 in
theorem ct_setCost (G : mx_G) (I : mx_I) (a : Nat) (z : Zs) (hW : cW G I a z) (s c : Int32) : mx_CT yX9_setCost mX9_setCost 8 1 6 [.ref a, .int s, .int c] G I (fun rv Gz Iz => fl_setCost z s c = 0 ∧ rv = some (.int (nI (gC (zG z) s.toInt.toNat))) ∧ cP G I a (nx_setCost z s.toInt.toNat c.toInt.toNat) Gz Iz) (fun E Gz Iz => (fl_setCost z s c) ≠ 0 ∧ E = exN (fl_setCost z s c) ∧ cP G I a z Gz Iz) := by
  refine mx_start (k := 1) (by decide) rfl rfl (fun h => nomatch h) (Nat.le_of_ble_eq_true rfl) ?_
  show mx_V mX9_setCost mx_S0 8 1 6 0 [some (.ref a), some (.int s), some (.int c), none] [] G I (fun rv Gz Iz => fl_setCost z s c = 0 ∧ rv = some (.int (nI (gC (zG z) s.toInt.toNat))) ∧ cP G I a (nx_setCost z s.toInt.toNat c.toInt.toNat) Gz Iz) (fun E Gz Iz => (fl_setCost z s c) ≠ 0 ∧ E = exN (fl_setCost z s c) ∧ cP G I a z Gz Iz)
  have hW0 := hW
  obtain ⟨⟨hSP, hsz, hpe⟩, hTx, hSt, hHi, hSl⟩ := hW
  have oSt : oST G (a + 37) := hSP.2.2.2.2.1.2
  obtain ⟨tg9, ⟨f0, oTx⟩, ⟨f1, oPt⟩, ⟨f2, oRd⟩, ⟨f3, -⟩, ⟨f4, oDr⟩, ⟨f5, oHi⟩, ⟨f6, gSl, lSl, ⟨rq0, oS0⟩, ⟨rq1, oS1⟩⟩, ⟨f7, gFi, lFi⟩, ⟨f8, oSe⟩, ⟨f9, oTr⟩, ⟨f10, oBp⟩⟩ := hSP
  have tg0 : mx_tg G (a + 1) = 17 := oTx.1
  have tg1 : mx_tg G (a + 3) = 12 := oPt.1
  have tg2 : mx_tg G (a + 8) = 13 := oRd.1
  have tg3 : mx_tg G (a + 37) = 16 := oSt.1
  have tg4 : mx_tg G (a + 42) = 16 := oDr.1
  have tg5 : mx_tg G (a + 47) = 11 := oHi.1
  have tg6 : mx_tg G (a + 131) = 15 := oSe.1
  have tg7 : mx_tg G (a + 136) = 15 := oTr.1
  have tg8 : mx_tg G (a + 141) = 10 := oBp.1
  obtain ⟨rT, tT, lT⟩ : mx_rf G (a + 1) 0 = a + 2 ∧ mx_tg G (a + 2) = 2 ∧ mx_ln G (a + 2) = 110 := oTx.2
  have oSt0 : oST G (a + 37) := oSt
  obtain ⟨-, ⟨rF, tF, lF⟩, ⟨rK, tK, lK⟩, ⟨rO, tO, lO⟩, ⟨rC, tC, lC⟩⟩ : mx_tg G (a + 37) = 16 ∧ (mx_rf G (a + 37) 2 = a + 38 ∧ mx_tg G (a + 38) = 1 ∧ mx_ln G (a + 38) = 25) ∧ (mx_rf G (a + 37) 3 = a + 39 ∧ mx_tg G (a + 39) = 1 ∧ mx_ln G (a + 39) = 25) ∧ (mx_rf G (a + 37) 4 = a + 40 ∧ mx_tg G (a + 40) = 1 ∧ mx_ln G (a + 40) = 25) ∧ (mx_rf G (a + 37) 5 = a + 41 ∧ mx_tg G (a + 41) = 1 ∧ mx_ln G (a + 41) = 25) := oSt
  have hSv : stN I (a + 37) (zG z) := hSt.1
  obtain ⟨⟨hP8, hN25, hvb⟩, hs0, hs1, hsF, hsK, hsT, hsC⟩ : stN I (a + 37) (zG z) := hSt.1
  have hN24 : gN (zG z) ≤ 24 := hSt.2.1.1
  have hTx0 := hTx
  obtain ⟨hn110, ht1, htc, htb⟩ : txN I (a + 1) (zN z) (zT z) := hTx
  obtain ⟨hcnt14, nx9, hnx9, hn1, hn2, hhi⟩ := hHi
  obtain ⟨pt9, hpt9⟩ : ∃ pt, mx_rf G (a + 37) 6 = pt := ⟨_, rfl⟩
  have tgp9 : mx_tg G pt9 = 12 := by rw [← hpt9]; exact hW0.2.2.1.2.2.2.2.1.1
  refine mx_aload_n (i := 0) (hi := rfl) (hl := rfl) (hd := dX9_setCost_0) ?_
  refine mx_getR (ci := 9) (k := 3) (r := (a + 37)) dX9_setCost_1 k_299 (by decide) rfl (by assumption) (by assumption) (by omega) ?_
  refine mx_iload_n (i := 1) (hi := rfl) (hl := rfl) (hd := dX9_setCost_4) ?_
  refine mx_iload_n (i := 2) (hi := rfl) (hl := rfl) (hd := dX9_setCost_5) ?_
  refine mx_callVp (ci := 6) (As := [.int s, .int c]) (rest := []) dX9_setCost_6 (ct_faultOfCosting G I (a + 37) _ oSt0 hSv s c) km_X6_faultOfCosting rfl k_503 k_504 k_505 (by assumption) rfl rfl (Nat.le_of_ble_eq_true rfl) (by decide) ?_
  refine mx_callS (As := [.int (nI (fl_setCost z s c))]) (rest := []) (b1 := 1) (b2 := 6) dX9_setCost_9 (ct_refuse G I (fl_setCost z s c) (fl_setCost_le _ _ _)) km_X9_refuse rfl k_341 k_342 rfl rfl (Nat.le_of_ble_eq_true rfl) (by decide) (fun E G9 I9 h9 => mx_xo rfl ⟨h9.1, hW0.id.thw h9.2⟩) (fun r1 G3 I2 h4 => ?_)
  obtain ⟨k0, e1, e2, e3⟩ := h4
  have e2 := e2.symm
  subst e1; subst e2; subst e3
  obtain ⟨k1, k2⟩ := fl_setCost_0 k0
  refine mx_aload_n (i := 0) (hi := rfl) (hl := rfl) (hd := dX9_setCost_12) ?_
  refine mx_getR (ci := 9) (k := 5) (r := (a + 47)) dX9_setCost_13 k_301 (by decide) rfl (by assumption) (by assumption) (by omega) ?_
  refine mx_aload_n (i := 0) (hi := rfl) (hl := rfl) (hd := dX9_setCost_16) ?_
  refine mx_getR (ci := 9) (k := 3) (r := (a + 37)) dX9_setCost_17 k_299 (by decide) rfl (by assumption) (by assumption) (by omega) ?_
  refine mx_callV (ci := 1) (As := [.ref (a + 37)]) (rest := []) (b1 := 0) (b2 := 0) dX9_setCost_20 (ct_remember G I (a + 47) nx9 (zC z) oHi hnx9 hcnt14 hn1 hn2 (a + 37) pt9 _ oSt0 hSv hpt9 tgp9 (by omega)) km_X1_remember rfl k_762 k_763 k_764 (by assumption) rfl rfl (Nat.le_of_ble_eq_true rfl) (by decide) (fun _ _ _ q => q.elim) (fun r5 G2 I2 h6 => ?_)
  obtain ⟨e9, e1, m1, m2, m3, m4⟩ := h6
  subst e9
  have hP1 : cP G I a (zPush z) G2 I2 := by rw [e1]; exact hW0.push hnx9 hn1 hhi hpt9 m1 m2 m3 m4
  clear e1 m1 m2 m3 m4 hSl
  obtain ⟨⟨hSP, hsz, hpe⟩, hTx, hSt, hHi, hSl⟩ := hP1.1
  have oSt : oST G2 (a + 37) := hSP.2.2.2.2.1.2
  obtain ⟨tg9, ⟨f0, oTx⟩, ⟨f1, oPt⟩, ⟨f2, oRd⟩, ⟨f3, -⟩, ⟨f4, oDr⟩, ⟨f5, oHi⟩, ⟨f6, gSl, lSl, ⟨rq0, oS0⟩, ⟨rq1, oS1⟩⟩, ⟨f7, gFi, lFi⟩, ⟨f8, oSe⟩, ⟨f9, oTr⟩, ⟨f10, oBp⟩⟩ := hSP
  have tg0 : mx_tg G2 (a + 1) = 17 := oTx.1
  have tg1 : mx_tg G2 (a + 3) = 12 := oPt.1
  have tg2 : mx_tg G2 (a + 8) = 13 := oRd.1
  have tg3 : mx_tg G2 (a + 37) = 16 := oSt.1
  have tg4 : mx_tg G2 (a + 42) = 16 := oDr.1
  have tg5 : mx_tg G2 (a + 47) = 11 := oHi.1
  have tg6 : mx_tg G2 (a + 131) = 15 := oSe.1
  have tg7 : mx_tg G2 (a + 136) = 15 := oTr.1
  have tg8 : mx_tg G2 (a + 141) = 10 := oBp.1
  obtain ⟨rT, tT, lT⟩ : mx_rf G2 (a + 1) 0 = a + 2 ∧ mx_tg G2 (a + 2) = 2 ∧ mx_ln G2 (a + 2) = 110 := oTx.2
  have oSt0 : oST G2 (a + 37) := oSt
  obtain ⟨-, ⟨rF, tF, lF⟩, ⟨rK, tK, lK⟩, ⟨rO, tO, lO⟩, ⟨rC, tC, lC⟩⟩ : mx_tg G2 (a + 37) = 16 ∧ (mx_rf G2 (a + 37) 2 = a + 38 ∧ mx_tg G2 (a + 38) = 1 ∧ mx_ln G2 (a + 38) = 25) ∧ (mx_rf G2 (a + 37) 3 = a + 39 ∧ mx_tg G2 (a + 39) = 1 ∧ mx_ln G2 (a + 39) = 25) ∧ (mx_rf G2 (a + 37) 4 = a + 40 ∧ mx_tg G2 (a + 40) = 1 ∧ mx_ln G2 (a + 40) = 25) ∧ (mx_rf G2 (a + 37) 5 = a + 41 ∧ mx_tg G2 (a + 41) = 1 ∧ mx_ln G2 (a + 41) = 25) := oSt
  have hSv : stN I2 (a + 37) (zG z) := hSt.1
  obtain ⟨⟨hP8, hN25, hvb⟩, hs0, hs1, hsF, hsK, hsT, hsC⟩ : stN I2 (a + 37) (zG z) := hSt.1
  have hN24 : gN (zG z) ≤ 24 := hSt.2.1.1
  have hTx0 := hTx
  obtain ⟨hn110, ht1, htc, htb⟩ : txN I2 (a + 1) (zN z) (zT z) := hTx
  refine mx_aload_n (i := 0) (hi := rfl) (hl := rfl) (hd := dX9_setCost_23) ?_
  refine mx_getR (ci := 9) (k := 3) (r := (a + 37)) dX9_setCost_24 k_299 (by decide) rfl (by assumption) (by assumption) (by omega) ?_
  refine mx_getR (ci := 6) (k := 5) (r := (a + 41)) dX9_setCost_27 k_188 (by decide) rfl (by assumption) (by assumption) (by omega) ?_
  refine mx_iload_n (i := 1) (hi := rfl) (hl := rfl) (hd := dX9_setCost_30) ?_
  refine mx_ialdV s.toInt.toNat (nI (gC (zG z) s.toInt.toNat)) dX9_setCost_31 (by assumption) ⟨(mx_nn k1.1).symm, by omega, by omega⟩ (hsC s.toInt.toNat (by omega)) ?_
  refine mx_istoreE_n (i := 3) (ls' := [some (.ref a), some (.int s), some (.int c), some (.int (nI (gC (zG z) s.toInt.toNat)))]) (hi := rfl) (hd := dX9_setCost_32) (hn := by decide) (hok := rfl) (hls := rfl) ?_
  refine mx_aload_n (i := 0) (hi := rfl) (hl := rfl) (hd := dX9_setCost_33) ?_
  refine mx_getR (ci := 9) (k := 3) (r := (a + 37)) dX9_setCost_34 k_299 (by decide) rfl (by assumption) (by assumption) (by omega) ?_
  refine mx_getR (ci := 6) (k := 5) (r := (a + 41)) dX9_setCost_37 k_188 (by decide) rfl (by assumption) (by assumption) (by omega) ?_
  refine mx_iload_n (i := 1) (hi := rfl) (hl := rfl) (hd := dX9_setCost_40) ?_
  refine mx_iload_n (i := 2) (hi := rfl) (hl := rfl) (hd := dX9_setCost_41) ?_
  refine mx_top (y := nI c.toInt.toNat) ((mx_nn (by omega)).symm) ?_
  refine mx_iast s.toInt.toNat dX9_setCost_42 (by assumption) ⟨(mx_nn k1.1).symm, by omega, by omega⟩ ?_
  refine mx_iload_n (i := 3) (hi := rfl) (hl := rfl) (hd := dX9_setCost_43) ?_
  refine mx_iret dX9_setCost_44 rfl rfl (⟨k0, rfl, hP1.tr (hP1.1.stI (v := gCost (zG z) s.toInt.toNat c.toInt.toNat) ((mx_fr.rf _ _ _).u (by omega)) ⟨wfG.cost hSv.1 _ (by omega), ?_, ?_, ?_, ?_, ?_, ?_⟩ hN24)⟩)
  · rw [mx_u_at, if_neg (by omega)]; exact hs0
  · rw [mx_u_at, if_neg (by omega)]; exact hs1
  · exact hsF.o (by omega)
  · exact hsK.o (by omega)
  · exact hsT.o (by omega)
  · exact hsC.u

set_option maxHeartbeats 400000 in
set_option maxRecDepth 100000 in
theorem ct_turn (G : mx_G) (I : mx_I) (a : Nat) (z : Zs) (hW : cW G I a z) (s : Int32) : mx_CT yX9_turn mX9_turn 8 1 6 [.ref a, .int s] G I (fun rv Gz Iz => fl_turn z s = 0 ∧ rv = some (.int (nI (gT (zG z) s.toInt.toNat))) ∧ cP G I a (nx_turn z s.toInt.toNat) Gz Iz) (fun E Gz Iz => (fl_turn z s) ≠ 0 ∧ E = exN (fl_turn z s) ∧ cP G I a z Gz Iz) := by
  refine mx_start (k := 0) (by decide) rfl rfl (fun h => nomatch h) (Nat.le_of_ble_eq_true rfl) ?_
  show mx_V mX9_turn mx_S0 8 1 6 0 [some (.ref a), some (.int s)] [] G I (fun rv Gz Iz => fl_turn z s = 0 ∧ rv = some (.int (nI (gT (zG z) s.toInt.toNat))) ∧ cP G I a (nx_turn z s.toInt.toNat) Gz Iz) (fun E Gz Iz => (fl_turn z s) ≠ 0 ∧ E = exN (fl_turn z s) ∧ cP G I a z Gz Iz)
  have hW0 := hW
  obtain ⟨⟨hSP, hsz, hpe⟩, hTx, hSt, hHi, hSl⟩ := hW
  have oSt : oST G (a + 37) := hSP.2.2.2.2.1.2
  obtain ⟨tg9, ⟨f0, oTx⟩, ⟨f1, oPt⟩, ⟨f2, oRd⟩, ⟨f3, -⟩, ⟨f4, oDr⟩, ⟨f5, oHi⟩, ⟨f6, gSl, lSl, ⟨rq0, oS0⟩, ⟨rq1, oS1⟩⟩, ⟨f7, gFi, lFi⟩, ⟨f8, oSe⟩, ⟨f9, oTr⟩, ⟨f10, oBp⟩⟩ := hSP
  have tg0 : mx_tg G (a + 1) = 17 := oTx.1
  have tg1 : mx_tg G (a + 3) = 12 := oPt.1
  have tg2 : mx_tg G (a + 8) = 13 := oRd.1
  have tg3 : mx_tg G (a + 37) = 16 := oSt.1
  have tg4 : mx_tg G (a + 42) = 16 := oDr.1
  have tg5 : mx_tg G (a + 47) = 11 := oHi.1
  have tg6 : mx_tg G (a + 131) = 15 := oSe.1
  have tg7 : mx_tg G (a + 136) = 15 := oTr.1
  have tg8 : mx_tg G (a + 141) = 10 := oBp.1
  obtain ⟨rT, tT, lT⟩ : mx_rf G (a + 1) 0 = a + 2 ∧ mx_tg G (a + 2) = 2 ∧ mx_ln G (a + 2) = 110 := oTx.2
  have oSt0 : oST G (a + 37) := oSt
  obtain ⟨-, ⟨rF, tF, lF⟩, ⟨rK, tK, lK⟩, ⟨rO, tO, lO⟩, ⟨rC, tC, lC⟩⟩ : mx_tg G (a + 37) = 16 ∧ (mx_rf G (a + 37) 2 = a + 38 ∧ mx_tg G (a + 38) = 1 ∧ mx_ln G (a + 38) = 25) ∧ (mx_rf G (a + 37) 3 = a + 39 ∧ mx_tg G (a + 39) = 1 ∧ mx_ln G (a + 39) = 25) ∧ (mx_rf G (a + 37) 4 = a + 40 ∧ mx_tg G (a + 40) = 1 ∧ mx_ln G (a + 40) = 25) ∧ (mx_rf G (a + 37) 5 = a + 41 ∧ mx_tg G (a + 41) = 1 ∧ mx_ln G (a + 41) = 25) := oSt
  have hSv : stN I (a + 37) (zG z) := hSt.1
  obtain ⟨⟨hP8, hN25, hvb⟩, hs0, hs1, hsF, hsK, hsT, hsC⟩ : stN I (a + 37) (zG z) := hSt.1
  have hN24 : gN (zG z) ≤ 24 := hSt.2.1.1
  have hTx0 := hTx
  obtain ⟨hn110, ht1, htc, htb⟩ : txN I (a + 1) (zN z) (zT z) := hTx
  obtain ⟨hcnt14, nx9, hnx9, hn1, hn2, hhi⟩ := hHi
  obtain ⟨pt9, hpt9⟩ : ∃ pt, mx_rf G (a + 37) 6 = pt := ⟨_, rfl⟩
  have tgp9 : mx_tg G pt9 = 12 := by rw [← hpt9]; exact hW0.2.2.1.2.2.2.2.1.1
  refine mx_aload_n (i := 0) (hi := rfl) (hl := rfl) (hd := dX9_turn_0) ?_
  refine mx_getR (ci := 9) (k := 3) (r := (a + 37)) dX9_turn_1 k_299 (by decide) rfl (by assumption) (by assumption) (by omega) ?_
  refine mx_iload_n (i := 1) (hi := rfl) (hl := rfl) (hd := dX9_turn_4) ?_
  refine mx_callVp (ci := 6) (As := [.int s]) (rest := []) dX9_turn_5 (ct_faultOfReversing G I (a + 37) _ oSt0 hSv s) km_X6_faultOfReversing rfl k_512 k_513 k_514 (by assumption) rfl rfl (Nat.le_of_ble_eq_true rfl) (by decide) ?_
  refine mx_callS (As := [.int (nI (fl_turn z s))]) (rest := []) (b1 := 1) (b2 := 6) dX9_turn_8 (ct_refuse G I (fl_turn z s) (fl_turn_le _ _)) km_X9_refuse rfl k_341 k_342 rfl rfl (Nat.le_of_ble_eq_true rfl) (by decide) (fun E G9 I9 h9 => mx_xo rfl ⟨h9.1, hW0.id.thw h9.2⟩) (fun r1 G3 I2 h4 => ?_)
  obtain ⟨k0, e1, e2, e3⟩ := h4
  have e2 := e2.symm
  subst e1; subst e2; subst e3
  obtain ⟨k1, k2⟩ := fl_turn_0 k0
  refine mx_aload_n (i := 0) (hi := rfl) (hl := rfl) (hd := dX9_turn_11) ?_
  refine mx_getR (ci := 9) (k := 5) (r := (a + 47)) dX9_turn_12 k_301 (by decide) rfl (by assumption) (by assumption) (by omega) ?_
  refine mx_aload_n (i := 0) (hi := rfl) (hl := rfl) (hd := dX9_turn_15) ?_
  refine mx_getR (ci := 9) (k := 3) (r := (a + 37)) dX9_turn_16 k_299 (by decide) rfl (by assumption) (by assumption) (by omega) ?_
  refine mx_callV (ci := 1) (As := [.ref (a + 37)]) (rest := []) (b1 := 0) (b2 := 0) dX9_turn_19 (ct_remember G I (a + 47) nx9 (zC z) oHi hnx9 hcnt14 hn1 hn2 (a + 37) pt9 _ oSt0 hSv hpt9 tgp9 (by omega)) km_X1_remember rfl k_762 k_763 k_764 (by assumption) rfl rfl (Nat.le_of_ble_eq_true rfl) (by decide) (fun _ _ _ q => q.elim) (fun r5 G2 I2 h6 => ?_)
  obtain ⟨e9, e1, m1, m2, m3, m4⟩ := h6
  subst e9
  have hP1 : cP G I a (zPush z) G2 I2 := by rw [e1]; exact hW0.push hnx9 hn1 hhi hpt9 m1 m2 m3 m4
  clear e1 m1 m2 m3 m4 hSl
  obtain ⟨⟨hSP, hsz, hpe⟩, hTx, hSt, hHi, hSl⟩ := hP1.1
  have oSt : oST G2 (a + 37) := hSP.2.2.2.2.1.2
  obtain ⟨tg9, ⟨f0, oTx⟩, ⟨f1, oPt⟩, ⟨f2, oRd⟩, ⟨f3, -⟩, ⟨f4, oDr⟩, ⟨f5, oHi⟩, ⟨f6, gSl, lSl, ⟨rq0, oS0⟩, ⟨rq1, oS1⟩⟩, ⟨f7, gFi, lFi⟩, ⟨f8, oSe⟩, ⟨f9, oTr⟩, ⟨f10, oBp⟩⟩ := hSP
  have tg0 : mx_tg G2 (a + 1) = 17 := oTx.1
  have tg1 : mx_tg G2 (a + 3) = 12 := oPt.1
  have tg2 : mx_tg G2 (a + 8) = 13 := oRd.1
  have tg3 : mx_tg G2 (a + 37) = 16 := oSt.1
  have tg4 : mx_tg G2 (a + 42) = 16 := oDr.1
  have tg5 : mx_tg G2 (a + 47) = 11 := oHi.1
  have tg6 : mx_tg G2 (a + 131) = 15 := oSe.1
  have tg7 : mx_tg G2 (a + 136) = 15 := oTr.1
  have tg8 : mx_tg G2 (a + 141) = 10 := oBp.1
  obtain ⟨rT, tT, lT⟩ : mx_rf G2 (a + 1) 0 = a + 2 ∧ mx_tg G2 (a + 2) = 2 ∧ mx_ln G2 (a + 2) = 110 := oTx.2
  have oSt0 : oST G2 (a + 37) := oSt
  obtain ⟨-, ⟨rF, tF, lF⟩, ⟨rK, tK, lK⟩, ⟨rO, tO, lO⟩, ⟨rC, tC, lC⟩⟩ : mx_tg G2 (a + 37) = 16 ∧ (mx_rf G2 (a + 37) 2 = a + 38 ∧ mx_tg G2 (a + 38) = 1 ∧ mx_ln G2 (a + 38) = 25) ∧ (mx_rf G2 (a + 37) 3 = a + 39 ∧ mx_tg G2 (a + 39) = 1 ∧ mx_ln G2 (a + 39) = 25) ∧ (mx_rf G2 (a + 37) 4 = a + 40 ∧ mx_tg G2 (a + 40) = 1 ∧ mx_ln G2 (a + 40) = 25) ∧ (mx_rf G2 (a + 37) 5 = a + 41 ∧ mx_tg G2 (a + 41) = 1 ∧ mx_ln G2 (a + 41) = 25) := oSt
  have hSv : stN I2 (a + 37) (zG z) := hSt.1
  obtain ⟨⟨hP8, hN25, hvb⟩, hs0, hs1, hsF, hsK, hsT, hsC⟩ : stN I2 (a + 37) (zG z) := hSt.1
  have hN24 : gN (zG z) ≤ 24 := hSt.2.1.1
  have hTx0 := hTx
  obtain ⟨hn110, ht1, htc, htb⟩ : txN I2 (a + 1) (zN z) (zT z) := hTx
  refine mx_aload_n (i := 0) (hi := rfl) (hl := rfl) (hd := dX9_turn_22) ?_
  refine mx_getR (ci := 9) (k := 3) (r := (a + 37)) dX9_turn_23 k_299 (by decide) rfl (by assumption) (by assumption) (by omega) ?_
  refine mx_iload_n (i := 1) (hi := rfl) (hl := rfl) (hd := dX9_turn_26) ?_
  refine mx_callVi (ci := 6) (As := [.int s]) (rest := []) dX9_turn_27 ((ct_reverse G2 I2 (a + 37) _ oSt0 hSv s.toInt.toNat (by omega)).eq (by rw [mx_nn k1.1])) km_X6_reverse rfl k_516 k_517 k_518 (by assumption) rfl rfl (Nat.le_of_ble_eq_true rfl) (by decide) (fun r7 I3 h8 => ?_)
  obtain ⟨e9, n1, n2⟩ := h8
  subst e9
  refine mx_aload_n (i := 0) (hi := rfl) (hl := rfl) (hd := dX9_turn_30) ?_
  refine mx_getR (ci := 9) (k := 3) (r := (a + 37)) dX9_turn_31 k_299 (by decide) rfl (by assumption) (by assumption) (by omega) ?_
  refine mx_getR (ci := 6) (k := 2) (r := (a + 38)) dX9_turn_34 k_175 (by decide) rfl (by assumption) (by assumption) (by omega) ?_
  refine mx_iload_n (i := 1) (hi := rfl) (hl := rfl) (hd := dX9_turn_37) ?_
  refine mx_ialdV s.toInt.toNat (nI (gT (zG z) s.toInt.toNat)) dX9_turn_38 (by assumption) ⟨(mx_nn k1.1).symm, by omega, by omega⟩ (by have h8 := n1.2.2.2.1 s.toInt.toNat (by show _ < gN (zG z); omega); rw [h8]; exact congrArg nI (if_pos rfl)) ?_
  exact mx_iret dX9_turn_39 rfl rfl (⟨k0, rfl, hP1.tr (hP1.1.stI n2 n1 hN24)⟩)

set_option maxHeartbeats 400000 in
set_option maxRecDepth 100000 in
theorem ct_exchange (G : mx_G) (I : mx_I) (a : Nat) (z : Zs) (hW : cW G I a z) (k l : Int32) : mx_CT yX9_exchange mX9_exchange 8 1 6 [.ref a, .int k, .int l] G I (fun rv Gz Iz => fl_exchange k l = 0 ∧ rv = some (.int (nI (gCh (gK (zG z)) k.toInt.toNat l.toInt.toNat (gN (zG z))))) ∧ cP G I a (nx_exchange z k.toInt.toNat l.toInt.toNat) Gz Iz) (fun E Gz Iz => (fl_exchange k l) ≠ 0 ∧ E = exN (fl_exchange k l) ∧ cP G I a z Gz Iz) := by
  refine mx_start (k := 0) (by decide) rfl rfl (fun h => nomatch h) (Nat.le_of_ble_eq_true rfl) ?_
  show mx_V mX9_exchange mx_S0 8 1 6 0 [some (.ref a), some (.int k), some (.int l)] [] G I (fun rv Gz Iz => fl_exchange k l = 0 ∧ rv = some (.int (nI (gCh (gK (zG z)) k.toInt.toNat l.toInt.toNat (gN (zG z))))) ∧ cP G I a (nx_exchange z k.toInt.toNat l.toInt.toNat) Gz Iz) (fun E Gz Iz => (fl_exchange k l) ≠ 0 ∧ E = exN (fl_exchange k l) ∧ cP G I a z Gz Iz)
  have hW0 := hW
  obtain ⟨⟨hSP, hsz, hpe⟩, hTx, hSt, hHi, hSl⟩ := hW
  have oSt : oST G (a + 37) := hSP.2.2.2.2.1.2
  obtain ⟨tg9, ⟨f0, oTx⟩, ⟨f1, oPt⟩, ⟨f2, oRd⟩, ⟨f3, -⟩, ⟨f4, oDr⟩, ⟨f5, oHi⟩, ⟨f6, gSl, lSl, ⟨rq0, oS0⟩, ⟨rq1, oS1⟩⟩, ⟨f7, gFi, lFi⟩, ⟨f8, oSe⟩, ⟨f9, oTr⟩, ⟨f10, oBp⟩⟩ := hSP
  have tg0 : mx_tg G (a + 1) = 17 := oTx.1
  have tg1 : mx_tg G (a + 3) = 12 := oPt.1
  have tg2 : mx_tg G (a + 8) = 13 := oRd.1
  have tg3 : mx_tg G (a + 37) = 16 := oSt.1
  have tg4 : mx_tg G (a + 42) = 16 := oDr.1
  have tg5 : mx_tg G (a + 47) = 11 := oHi.1
  have tg6 : mx_tg G (a + 131) = 15 := oSe.1
  have tg7 : mx_tg G (a + 136) = 15 := oTr.1
  have tg8 : mx_tg G (a + 141) = 10 := oBp.1
  obtain ⟨rT, tT, lT⟩ : mx_rf G (a + 1) 0 = a + 2 ∧ mx_tg G (a + 2) = 2 ∧ mx_ln G (a + 2) = 110 := oTx.2
  have oSt0 : oST G (a + 37) := oSt
  obtain ⟨-, ⟨rF, tF, lF⟩, ⟨rK, tK, lK⟩, ⟨rO, tO, lO⟩, ⟨rC, tC, lC⟩⟩ : mx_tg G (a + 37) = 16 ∧ (mx_rf G (a + 37) 2 = a + 38 ∧ mx_tg G (a + 38) = 1 ∧ mx_ln G (a + 38) = 25) ∧ (mx_rf G (a + 37) 3 = a + 39 ∧ mx_tg G (a + 39) = 1 ∧ mx_ln G (a + 39) = 25) ∧ (mx_rf G (a + 37) 4 = a + 40 ∧ mx_tg G (a + 40) = 1 ∧ mx_ln G (a + 40) = 25) ∧ (mx_rf G (a + 37) 5 = a + 41 ∧ mx_tg G (a + 41) = 1 ∧ mx_ln G (a + 41) = 25) := oSt
  have hSv : stN I (a + 37) (zG z) := hSt.1
  obtain ⟨⟨hP8, hN25, hvb⟩, hs0, hs1, hsF, hsK, hsT, hsC⟩ : stN I (a + 37) (zG z) := hSt.1
  have hN24 : gN (zG z) ≤ 24 := hSt.2.1.1
  have hTx0 := hTx
  obtain ⟨hn110, ht1, htc, htb⟩ : txN I (a + 1) (zN z) (zT z) := hTx
  obtain ⟨hcnt14, nx9, hnx9, hn1, hn2, hhi⟩ := hHi
  obtain ⟨pt9, hpt9⟩ : ∃ pt, mx_rf G (a + 37) 6 = pt := ⟨_, rfl⟩
  have tgp9 : mx_tg G pt9 = 12 := by rw [← hpt9]; exact hW0.2.2.1.2.2.2.2.1.1
  have J19 : ∀ (_ : Unit), mx_V mX9_exchange mx_S0 8 1 6 19 [some (.ref a), some (.int k), some (.int l)] [.int (mx_b (decide ((0 ≤ k.toInt ∧ k.toInt < 4) ∧ (0 ≤ l.toInt ∧ l.toInt < 4))))] G I (fun rv Gz Iz => fl_exchange k l = 0 ∧ rv = some (.int (nI (gCh (gK (zG z)) k.toInt.toNat l.toInt.toNat (gN (zG z))))) ∧ cP G I a (nx_exchange z k.toInt.toNat l.toInt.toNat) Gz Iz) (fun E Gz Iz => (fl_exchange k l) ≠ 0 ∧ E = exN (fl_exchange k l) ∧ cP G I a z Gz Iz) := by
    intro _ 
    refine mx_iconstN 2 dX9_exchange_19 (by decide) ?_
    refine mx_callS (As := [.int (mx_b (decide ((0 ≤ k.toInt ∧ k.toInt < 4) ∧ (0 ≤ l.toInt ∧ l.toInt < 4)))), .int (nI 2)]) (rest := []) (b1 := 1) (b2 := 6) dX9_exchange_20 (ct_require G I ((0 ≤ k.toInt ∧ k.toInt < 4) ∧ (0 ≤ l.toInt ∧ l.toInt < 4)) 2 (by decide)) km_X9_require rfl k_338 k_339 rfl rfl (Nat.le_of_ble_eq_true rfl) (by decide) (fun E G9 I9 h9 => mx_xo rfl (by have hf : fl_exchange k l = 2 := (by unfold fl_exchange; rw [if_pos h9.1]); show (fl_exchange k l) ≠ 0 ∧ E = exN (fl_exchange k l) ∧ cP G I a z G9 I9; rw [hf]; exact ⟨by decide, hW0.id.thw h9.2.2⟩)) (fun r1 G3 I2 h4 => ?_)
    obtain ⟨e0, e1, e2, e3⟩ := h4
    have e2 := e2.symm
    subst e1; subst e2; subst e3
    have k2 : (0 ≤ k.toInt ∧ k.toInt < 4) ∧ (0 ≤ l.toInt ∧ l.toInt < 4) := e0.resolve_right (by decide)
    clear e0
    refine mx_aload_n (i := 0) (hi := rfl) (hl := rfl) (hd := dX9_exchange_23) ?_
    refine mx_getR (ci := 9) (k := 5) (r := (a + 47)) dX9_exchange_24 k_301 (by decide) rfl (by assumption) (by assumption) (by omega) ?_
    refine mx_aload_n (i := 0) (hi := rfl) (hl := rfl) (hd := dX9_exchange_27) ?_
    refine mx_getR (ci := 9) (k := 3) (r := (a + 37)) dX9_exchange_28 k_299 (by decide) rfl (by assumption) (by assumption) (by omega) ?_
    refine mx_callV (ci := 1) (As := [.ref (a + 37)]) (rest := []) (b1 := 0) (b2 := 0) dX9_exchange_31 (ct_remember G I (a + 47) nx9 (zC z) oHi hnx9 hcnt14 hn1 hn2 (a + 37) pt9 _ oSt0 hSv hpt9 tgp9 (by omega)) km_X1_remember rfl k_762 k_763 k_764 (by assumption) rfl rfl (Nat.le_of_ble_eq_true rfl) (by decide) (fun _ _ _ q => q.elim) (fun r5 G2 I2 h6 => ?_)
    obtain ⟨e9, e1, m1, m2, m3, m4⟩ := h6
    subst e9
    have hP1 : cP G I a (zPush z) G2 I2 := by rw [e1]; exact hW0.push hnx9 hn1 hhi hpt9 m1 m2 m3 m4
    clear e1 m1 m2 m3 m4 hSl
    obtain ⟨⟨hSP, hsz, hpe⟩, hTx, hSt, hHi, hSl⟩ := hP1.1
    have oSt : oST G2 (a + 37) := hSP.2.2.2.2.1.2
    obtain ⟨tg9, ⟨f0, oTx⟩, ⟨f1, oPt⟩, ⟨f2, oRd⟩, ⟨f3, -⟩, ⟨f4, oDr⟩, ⟨f5, oHi⟩, ⟨f6, gSl, lSl, ⟨rq0, oS0⟩, ⟨rq1, oS1⟩⟩, ⟨f7, gFi, lFi⟩, ⟨f8, oSe⟩, ⟨f9, oTr⟩, ⟨f10, oBp⟩⟩ := hSP
    have tg0 : mx_tg G2 (a + 1) = 17 := oTx.1
    have tg1 : mx_tg G2 (a + 3) = 12 := oPt.1
    have tg2 : mx_tg G2 (a + 8) = 13 := oRd.1
    have tg3 : mx_tg G2 (a + 37) = 16 := oSt.1
    have tg4 : mx_tg G2 (a + 42) = 16 := oDr.1
    have tg5 : mx_tg G2 (a + 47) = 11 := oHi.1
    have tg6 : mx_tg G2 (a + 131) = 15 := oSe.1
    have tg7 : mx_tg G2 (a + 136) = 15 := oTr.1
    have tg8 : mx_tg G2 (a + 141) = 10 := oBp.1
    obtain ⟨rT, tT, lT⟩ : mx_rf G2 (a + 1) 0 = a + 2 ∧ mx_tg G2 (a + 2) = 2 ∧ mx_ln G2 (a + 2) = 110 := oTx.2
    have oSt0 : oST G2 (a + 37) := oSt
    obtain ⟨-, ⟨rF, tF, lF⟩, ⟨rK, tK, lK⟩, ⟨rO, tO, lO⟩, ⟨rC, tC, lC⟩⟩ : mx_tg G2 (a + 37) = 16 ∧ (mx_rf G2 (a + 37) 2 = a + 38 ∧ mx_tg G2 (a + 38) = 1 ∧ mx_ln G2 (a + 38) = 25) ∧ (mx_rf G2 (a + 37) 3 = a + 39 ∧ mx_tg G2 (a + 39) = 1 ∧ mx_ln G2 (a + 39) = 25) ∧ (mx_rf G2 (a + 37) 4 = a + 40 ∧ mx_tg G2 (a + 40) = 1 ∧ mx_ln G2 (a + 40) = 25) ∧ (mx_rf G2 (a + 37) 5 = a + 41 ∧ mx_tg G2 (a + 41) = 1 ∧ mx_ln G2 (a + 41) = 25) := oSt
    have hSv : stN I2 (a + 37) (zG z) := hSt.1
    obtain ⟨⟨hP8, hN25, hvb⟩, hs0, hs1, hsF, hsK, hsT, hsC⟩ : stN I2 (a + 37) (zG z) := hSt.1
    have hN24 : gN (zG z) ≤ 24 := hSt.2.1.1
    have hTx0 := hTx
    obtain ⟨hn110, ht1, htc, htb⟩ : txN I2 (a + 1) (zN z) (zT z) := hTx
    refine mx_aload_n (i := 0) (hi := rfl) (hl := rfl) (hd := dX9_exchange_34) ?_
    refine mx_getR (ci := 9) (k := 3) (r := (a + 37)) dX9_exchange_35 k_299 (by decide) rfl (by assumption) (by assumption) (by omega) ?_
    refine mx_iload_n (i := 1) (hi := rfl) (hl := rfl) (hd := dX9_exchange_38) ?_
    refine mx_iload_n (i := 2) (hi := rfl) (hl := rfl) (hd := dX9_exchange_39) ?_
    refine mx_callVi (ci := 6) (As := [.int k, .int l]) (rest := []) dX9_exchange_40 ((ct_swapKinds G2 I2 (a + 37) _ oSt0 hSv k.toInt.toNat l.toInt.toNat (by omega) (by omega)).eq (by rw [mx_nn k2.1.1, mx_nn k2.2.1])) km_X6_swapKinds rfl k_525 k_526 k_527 (by assumption) rfl rfl (Nat.le_of_ble_eq_true rfl) (by decide) (fun r7 I3 h8 => ?_)
    obtain ⟨e9, n1, n2⟩ := h8
    subst e9
    exact mx_iret dX9_exchange_43 rfl rfl (⟨by unfold fl_exchange; rw [if_neg (fun q => q k2)], rfl, hP1.tr (hP1.1.stI n2 n1 hN24)⟩)
  refine mx_iload_n (i := 1) (hi := rfl) (hl := rfl) (hd := dX9_exchange_0) ?_
  refine mx_callSp (As := [.int k]) (rest := []) dX9_exchange_1 (ct_isKind G I k) km_X9_isKind rfl k_524 k_474 rfl rfl (Nat.le_of_ble_eq_true rfl) (by decide) ?_
  refine mx_ifB_eq 18 dX9_exchange_4 (by decide) (fun c4 => ?_) (fun c4 => ?_)
  · skip
    refine mx_iconstN 0 dX9_exchange_18 (by decide) ?_
    refine mx_top (y := mx_b (decide ((0 ≤ k.toInt ∧ k.toInt < 4) ∧ (0 ≤ l.toInt ∧ l.toInt < 4)))) (mx_bF (by omega)) ?_
    exact J19 () 
  · skip
    refine mx_iload_n (i := 2) (hi := rfl) (hl := rfl) (hd := dX9_exchange_7) ?_
    refine mx_callSp (As := [.int l]) (rest := []) dX9_exchange_8 (ct_isKind G I l) km_X9_isKind rfl k_524 k_474 rfl rfl (Nat.le_of_ble_eq_true rfl) (by decide) ?_
    refine mx_ifB_eq 18 dX9_exchange_11 (by decide) (fun c11 => ?_) (fun c11 => ?_)
    · skip
      refine mx_iconstN 0 dX9_exchange_18 (by decide) ?_
      refine mx_top (y := mx_b (decide ((0 ≤ k.toInt ∧ k.toInt < 4) ∧ (0 ≤ l.toInt ∧ l.toInt < 4)))) (mx_bF (by omega)) ?_
      exact J19 () 
    · skip
      refine mx_iconstN 1 dX9_exchange_14 (by decide) ?_
      refine mx_goto (tgt := 19) dX9_exchange_15 (by decide) ?_
      refine mx_top (y := mx_b (decide ((0 ≤ k.toInt ∧ k.toInt < 4) ∧ (0 ≤ l.toInt ∧ l.toInt < 4)))) (mx_bT (by omega)) ?_
      exact J19 () 
