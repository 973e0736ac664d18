/-! THE METHODS OF StepPaths: take, undo, the slots -/
theorem peF_le (ch : Nat → Nat) (n : Nat) : ∀ (f i L op bh s : Nat), i + f ≤ n → peF ch n f i L op bh = some s → s ≤ n
  | 0, i, L, op, bh, s, h, e => by
    unfold peF at e
    split at e
    · cases e; exact Nat.le_refl _
    · cases e
  | f + 1, i, L, op, bh, s, h, e => by
    unfold peF at e
    split at e
    · exact peF_le ch n f (i + 1) _ _ _ s (by omega) e
    · cases e; omega
theorem peF_40 (ch : Nat → Nat) (n : Nat) : ∀ (f i L op bh : Nat), i ≤ 40 → peF ch n f i L op bh = none → i + f ≤ 40
  | 0, i, L, op, bh, h, e => h
  | f + 1, i, L, op, bh, h, e => by
    unfold peF at e
    split at e
    · next c =>
      have := peF_40 ch n f (i + 1) _ _ _ (by omega) e
      omega
    · cases e
theorem pErr_le {ch : Nat → Nat} {n s : Nat} (h : pErr ch n = some s) : s ≤ n := peF_le ch n n 0 0 0 0 s (by omega) h
theorem pErr_40 {ch : Nat → Nat} {n : Nat} (h : pErr ch n = none) : n ≤ 40 := by
  have := peF_40 ch n n 0 0 0 0 (by decide) h
  omega
theorem pErr_iff {ch : Nat → Nat} {n : Nat} (hn : n < 2 ^ 31) : oI (pErr ch n) = -9 ↔ pErr ch n = none := oI_iff (fun s hs => by
  have := pErr_le hs
  omega)
theorem tk_1 (a : Nat) : a + 8 + 29 ≤ a + 146 := by omega
theorem tk_2 (a : Nat) : a + 1 + 2 ≤ a + 146 := by omega
theorem tk_3 (a : Nat) : a + 1 + 2 ≤ a + 8 := by omega
theorem lt2 {x : Int} (h : 0 ≤ x ∧ x < 2) : x.toNat < 2 := by omega
theorem sv_ne {a b s : Nat} (h1 : a + 120 + 5 * s ≤ b) (h2 : b < a + 120 + 5 * s + 5) (hs : s < 2) : ¬ b = a + 130 := by omega
def fl_take (z : Zs) : Nat := if pErr (zT z) (zN z) = none then 0 else 3
def nx_take (z : Zs) : Zs := ((zPush z).1, (zG z, zN z, zT z), (zPush z).2.2)
def fl_undo (z : Zs) : Nat := if 0 < zC z then 0 else 3
def nx_undo (z : Zs) : Zs := (z.1, zH z (zC z - 1), (zC z - 1, zH z), z.2.2.2)
def fl_slot (s : Int32) : Nat := if ¬ (0 ≤ s.toInt ∧ s.toInt < 2) then 1 else 0
def nx_save (z : Zs) (s : Nat) : Zs := (z.1, z.2.1, z.2.2.1, fun j => if j = s then true else zF z j, fun j => if j = s then zX z else zK z j)
def fl_restore (z : Zs) (s : Int32) : Nat := if ¬ (0 ≤ s.toInt ∧ s.toInt < 2) then 1 else if ¬ zF z s.toInt.toNat = true then 3 else 0
def nx_restore (z : Zs) (s : Nat) : Zs := (z.1, zK z s, (0, zH z), z.2.2.2)
theorem cW.tk {G G3 : mx_G} {I I3 : mx_I} {a N : Nat} {z : Zs} (h : cW G I a z) (hz : mx_sz G = N) (hz3 : mx_sz G3 = N + 5) (hsm : mx_sm G G3) (hc : mx_cr G G3 (a + 8 + 1) N) (hpt : oPT G3 N) (hpn : ptN I3 N (rdF (zT z) (zN z))) (hc0 : mx_cr G G3 0 (a + 8)) (hfr : ∀ b, (b < a + 8 ∨ (a + 8 + 4 ≤ b ∧ b < a + 8 + 9) ∨ a + 8 + 29 ≤ b) → (b < N ∨ N + 5 ≤ b) → I3 b = I b) (he : pErr (zT z) (zN z) = none) : cP G I a (z.1, (zG z, zN z, zT z), z.2.2) (mx_uR G3 (a + 37) 6 N) I3 := by
  have ha := h.1.2.1
  have t : mx_tg G (a + 37) = 16 := h.1.1.2.2.2.2.1.2.1
  have m : mx_sm G (mx_uR G3 (a + 37) 6 N) := hsm.u6 t
  refine h.st (x := (zG z, zN z, zT z)) m (by show mx_sz G ≤ mx_sz G3; omega) (fun o q => ?_) (fun b q1 q2 => hfr b (by omega) (by omega)) ⟨h.2.2.1.1.k (fun b q1 q2 => hfr b (by omega) (by omega)), ⟨h.2.2.1.2.1.1, pErr_40 he, he, h.2.1.2.2.2⟩, ?_⟩
  · rw [mx_rf_uR, if_neg (by omega)]
    rcases Nat.lt_or_ge o (a + 8) with q9 | q9
    · exact (hc0 o (by omega) q9).2.2 6
    · exact (hc o (by omega) (by omega)).2.2 6
  · rw [mx_rf_uR, if_pos ⟨rfl, rfl⟩]
    refine ⟨Or.inr (by omega), by show N + 5 ≤ mx_sz G3; omega, ?_, hpn⟩
    exact hpt.sm ((mx_sm.rf G3).u6 (hsm.tg t (by decide)))
theorem cW.pop {G : mx_G} {I I' : mx_I} {a nx pt : Nat} {z : Zs} (h : cW G I a z) (hnx : nx < 14) (hc : 0 < zC z) (h1 : ∀ j, j < zC z → stP G I a (a + 49 + 5 * ((nx + 14 - zC z + j) % 14)) (zH z j)) (hr : mx_rf G (a + 47 + 2 + 5 * ((nx + 13) % 14)) 6 = pt)
    (m1 : stN I' (a + 37) (zH z (zC z - 1)).1) (m2 : I' (a + 47) 1 = nI ((nx + 13) % 14)) (m3 : I' (a + 47) 2 = nI (zC z - 1)) (m4 : ∀ b, b ≠ a + 47 → (b < a + 37 ∨ a + 37 + 5 ≤ b) → I' b = I b) : cP G I a (nx_undo z) (mx_uR G (a + 37) 6 pt) I' := by
  obtain ⟨h2, h3, h4, h5, h6⟩ := h
  have ha := h2.2.1
  have hcnt := h5.1
  have htg : mx_tg G (a + 37) = 16 := h2.1.2.2.2.2.1.2.1
  have m : mx_sm G (mx_uR G (a + 37) 6 pt) := (mx_sm.rf G).u6 htg
  have hz : mx_sz G ≤ mx_sz (mx_uR G (a + 37) 6 pt) := Nat.le_refl _
  have f : cFr a G I I' := fun b q1 q2 => m4 b (by omega) (by omega)
  have hrf : ∀ o, o ≠ a + 37 → mx_rf (mx_uR G (a + 37) 6 pt) o 6 = mx_rf G o 6 := fun o ho => by rw [mx_rf_uR, if_neg (fun q => ho q.1)]
  have hl := h1 (zC z - 1) (by omega)
  rw [show a + 49 + 5 * ((nx + 14 - zC z + (zC z - 1)) % 14) = a + 47 + 2 + 5 * ((nx + 13) % 14) by omega] at hl
  refine ⟨⟨h2.k m hz f, h3.k (m4 _ (by omega) (by omega)) (m4 _ (by omega) (by omega)), ⟨m1, hl.2.1, ?_⟩, ⟨by show zC z - 1 ≤ 14; omega, (nx + 13) % 14, Nat.mod_lt _ (by decide), m2, m3, fun j hj => ?_⟩, h6.k ha m hz f (fun s hs => hrf _ (by omega)) (fun b q1 q2 => m4 b (by omega) (by omega))⟩, m, hz, f, (rFr.rf a G).u (by omega)⟩
  · rw [mx_rf_uR, if_pos ⟨rfl, rfl⟩]
    have h7 := hl.2.2
    rw [hr] at h7
    exact h7.k ha m hz f
  · have hj : j < zC z - 1 := hj
    show stP _ I' a (a + 49 + 5 * (((nx + 13) % 14 + 14 - (zC z - 1) + j) % 14)) (zH z j)
    rw [show ((nx + 13) % 14 + 14 - (zC z - 1) + j) % 14 = (nx + 14 - zC z + j) % 14 by omega]
    have hm : (nx + 14 - zC z + j) % 14 < 14 := Nat.mod_lt _ (by decide)
    exact (h1 j (by omega)).k ha m hz f (hrf _ (by omega)) (fun b q1 q2 => m4 b (by omega) (by omega))
theorem cW.sv {G : mx_G} {I I' : mx_I} {a s pt : Nat} {z : Zs} (h : cW G I a z) (hs : s < 2) (hr : mx_rf G (a + 37) 6 = pt) (m1 : stN I' (a + 120 + 5 * s) (zG z)) (m2 : I' (a + 130) s = nI 1) (m3 : ∀ j, j ≠ s → I' (a + 130) j = I (a + 130) j) (m4 : ∀ b, (b < a + 120 + 5 * s ∨ a + 120 + 5 * s + 5 ≤ b) → b ≠ a + 130 → I' b = I b) : cP G I a (nx_save z s) (mx_uR G (a + 120 + 5 * s) 6 pt) I' := by
  obtain ⟨h2, h3, h4, h5, h6⟩ := h
  have ha := h2.2.1
  have htg : mx_tg G (a + 120 + 5 * s) = 16 := by
    obtain ⟨-, -, -, -, -, -, -, ⟨-, -, -, ⟨-, q0⟩, ⟨-, q1⟩⟩, -⟩ := h2.1
    rcases (show s = 0 ∨ s = 1 by omega) with rfl | rfl
    · exact q0.1
    · exact q1.1
  have m : mx_sm G (mx_uR G (a + 120 + 5 * s) 6 pt) := (mx_sm.rf G).u6 htg
  have hz : mx_sz G ≤ mx_sz (mx_uR G (a + 120 + 5 * s) 6 pt) := Nat.le_refl _
  have f : cFr a G I I' := fun b q1 q2 => m4 b (by omega) (by omega)
  have hrf : ∀ o, o ≠ a + 120 + 5 * s → mx_rf (mx_uR G (a + 120 + 5 * s) 6 pt) o 6 = mx_rf G o 6 := fun o ho => by rw [mx_rf_uR, if_neg (fun q => ho q.1)]
  refine ⟨⟨h2.k m hz f, h3.k (m4 _ (by omega) (by omega)) (m4 _ (by omega) (by omega)), h4.k ha m hz f (hrf _ (by omega)) (fun b q1 q2 => m4 b (by omega) (by omega)), h5.k ha m hz f (fun i hi => hrf _ (by omega)) (fun b q1 q2 => m4 b (by omega) (by omega)), fun j hj => ?_⟩, m, hz, f, (rFr.rf a G).u (by omega)⟩
  show I' (a + 130) j = mx_b (if j = s then true else zF z j) ∧ ((if j = s then true else zF z j) = true → stP _ I' a (a + 120 + 5 * j) (if j = s then zX z else zK z j))
  by_cases e : j = s
  · subst e
    rw [if_pos rfl, if_pos rfl]
    refine ⟨m2, fun _ => ⟨m1, h4.2.1, ?_⟩⟩
    rw [mx_rf_uR, if_pos ⟨rfl, rfl⟩]
    have h7 := h4.2.2
    rw [hr] at h7
    exact h7.k ha m hz f
  · rw [if_neg e, if_neg e]
    obtain ⟨q1, q2⟩ := h6 j hj
    exact ⟨(m3 j e).trans q1, fun q => (q2 q).k ha m hz f (hrf _ (by omega)) (fun b z1 z2 => m4 b (by omega) (by omega))⟩

set_option maxHeartbeats 600000 in
set_option maxRecDepth 100000 in
theorem ct_take (G : mx_G) (I : mx_I) (a : Nat) (z : Zs) (hW : cW G I a z) : mx_CT yX9_take mX9_take 8 6 103 [.ref a] G I (fun rv Gz Iz => fl_take z = 0 ∧ rv = some (.int (nI (pL (rdF (zT z) (zN z))))) ∧ cP G I a (nx_take z) Gz Iz) (fun E Gz Iz => (fl_take z) ≠ 0 ∧ E = exN (fl_take z) ∧ cP G I a z Gz Iz) := by
  refine mx_start (k := 0) (by decide) rfl rfl (fun h => nomatch h) (Nat.le_of_ble_eq_true rfl) ?_
  show mx_V mX9_take mx_S0 8 6 103 0 [some (.ref a)] [] G I (fun rv Gz Iz => fl_take z = 0 ∧ rv = some (.int (nI (pL (rdF (zT z) (zN z))))) ∧ cP G I a (nx_take z) Gz Iz) (fun E Gz Iz => (fl_take z) ≠ 0 ∧ E = exN (fl_take z) ∧ cP G I a z Gz Iz)
  have hW0 := hW
  obtain ⟨⟨hSP, hsz, hpe⟩, hTx, hSt, hHi, hSl⟩ := hW
  have oSt : oST G (a + 37) := hSP.2.2.2.2.1.2
  obtain ⟨tg9, ⟨f0, oTx⟩, ⟨f1, oPt⟩, ⟨f2, oRd⟩, ⟨f3, -⟩, ⟨f4, oDr⟩, ⟨f5, oHi⟩, ⟨f6, gSl, lSl, ⟨rq0, oS0⟩, ⟨rq1, oS1⟩⟩, ⟨f7, gFi, lFi⟩, ⟨f8, oSe⟩, ⟨f9, oTr⟩, ⟨f10, oBp⟩⟩ := hSP
  have tg0 : mx_tg G (a + 1) = 17 := oTx.1
  have tg1 : mx_tg G (a + 3) = 12 := oPt.1
  have tg2 : mx_tg G (a + 8) = 13 := oRd.1
  have tg3 : mx_tg G (a + 37) = 16 := oSt.1
  have tg4 : mx_tg G (a + 42) = 16 := oDr.1
  have tg5 : mx_tg G (a + 47) = 11 := oHi.1
  have tg6 : mx_tg G (a + 131) = 15 := oSe.1
  have tg7 : mx_tg G (a + 136) = 15 := oTr.1
  have tg8 : mx_tg G (a + 141) = 10 := oBp.1
  obtain ⟨rT, tT, lT⟩ : mx_rf G (a + 1) 0 = a + 2 ∧ mx_tg G (a + 2) = 2 ∧ mx_ln G (a + 2) = 110 := oTx.2
  have oSt0 : oST G (a + 37) := oSt
  obtain ⟨-, ⟨rF, tF, lF⟩, ⟨rK, tK, lK⟩, ⟨rO, tO, lO⟩, ⟨rC, tC, lC⟩⟩ : mx_tg G (a + 37) = 16 ∧ (mx_rf G (a + 37) 2 = a + 38 ∧ mx_tg G (a + 38) = 1 ∧ mx_ln G (a + 38) = 25) ∧ (mx_rf G (a + 37) 3 = a + 39 ∧ mx_tg G (a + 39) = 1 ∧ mx_ln G (a + 39) = 25) ∧ (mx_rf G (a + 37) 4 = a + 40 ∧ mx_tg G (a + 40) = 1 ∧ mx_ln G (a + 40) = 25) ∧ (mx_rf G (a + 37) 5 = a + 41 ∧ mx_tg G (a + 41) = 1 ∧ mx_ln G (a + 41) = 25) := oSt
  have hSv : stN I (a + 37) (zG z) := hSt.1
  obtain ⟨⟨hP8, hN25, hvb⟩, hs0, hs1, hsF, hsK, hsT, hsC⟩ : stN I (a + 37) (zG z) := hSt.1
  have hN24 : gN (zG z) ≤ 24 := hSt.2.1.1
  have hTx0 := hTx
  obtain ⟨hn110, ht1, htc, htb⟩ : txN I (a + 1) (zN z) (zT z) := hTx
  obtain ⟨hcnt14, nx9, hnx9, hn1, hn2, hhi⟩ := hHi
  obtain ⟨pt9, hpt9⟩ : ∃ pt, mx_rf G (a + 37) 6 = pt := ⟨_, rfl⟩
  have tgp9 : mx_tg G pt9 = 12 := by rw [← hpt9]; exact hW0.2.2.1.2.2.2.2.1.1
  refine mx_aload_n (i := 0) (hi := rfl) (hl := rfl) (hd := dX9_take_0) ?_
  refine mx_getR (ci := 9) (k := 0) (r := (a + 1)) dX9_take_1 k_296 (by decide) rfl (by assumption) (by assumption) (by omega) ?_
  refine mx_callVp (ci := 7) (As := []) (rest := []) dX9_take_4 (ct_patternError G I (a + 1) (zN z) (zT z) oTx hTx0) km_X7_patternError rfl k_805 k_806 k_807 (by assumption) rfl rfl (Nat.le_of_ble_eq_true rfl) (by decide) ?_
  refine mx_bipush (v := (-9)) (by decide) dX9_take_7 ?_
  refine mx_icmp_ne (tgt := 16) dX9_take_9 (by decide) (fun c9 => ?_) (fun c9 => ?_)
  · skip
    refine mx_iconstN 0 dX9_take_16 (by decide) ?_
    refine mx_top (y := mx_b (decide (pErr (zT z) (zN z) = none))) (mx_bF (fun q => c9 ((pErr_iff (by omega)).mpr q))) ?_
    refine mx_iconstN 3 dX9_take_17 (by decide) ?_
    refine mx_callS (bc := 5) (bs := 97) (As := [.int (mx_b (decide (pErr (zT z) (zN z) = none))), .int (nI 3)]) (rest := []) (b1 := 1) (b2 := 6) dX9_take_18 (ct_require G I (pErr (zT z) (zN z) = none) 3 (by decide)) km_X9_require rfl k_338 k_339 rfl rfl (Nat.le_of_ble_eq_true rfl) (by decide) (fun E G9 I9 h9 => mx_xo rfl (by have hf : fl_take z = 3 := (by unfold fl_take; rw [if_neg h9.1]); show (fl_take z) ≠ 0 ∧ E = exN (fl_take z) ∧ cP G I a z G9 I9; rw [hf]; exact ⟨by decide, hW0.id.thw h9.2.2⟩)) (fun r1 G3 I2 h4 => ?_)
    obtain ⟨e0, e1, e2, e3⟩ := h4
    have e2 := e2.symm
    subst e1; subst e2; subst e3
    have k3 : pErr (zT z) (zN z) = none := e0.resolve_right (by decide)
    clear e0
    refine mx_aload_n (i := 0) (hi := rfl) (hl := rfl) (hd := dX9_take_21) ?_
    refine mx_getR (ci := 9) (k := 5) (r := (a + 47)) dX9_take_22 k_301 (by decide) rfl (by assumption) (by assumption) (by omega) ?_
    refine mx_aload_n (i := 0) (hi := rfl) (hl := rfl) (hd := dX9_take_25) ?_
    refine mx_getR (ci := 9) (k := 3) (r := (a + 37)) dX9_take_26 k_299 (by decide) rfl (by assumption) (by assumption) (by omega) ?_
    refine mx_callV (bc := 5) (bs := 97) (ci := 1) (As := [.ref (a + 37)]) (rest := []) (b1 := 0) (b2 := 0) dX9_take_29 (ct_remember G I (a + 47) nx9 (zC z) oHi hnx9 hcnt14 hn1 hn2 (a + 37) pt9 _ oSt0 hSv hpt9 tgp9 (by omega)) km_X1_remember rfl k_762 k_763 k_764 (by assumption) rfl rfl (Nat.le_of_ble_eq_true rfl) (by decide) (fun _ _ _ q => q.elim) (fun r5 G2 I2 h6 => ?_)
    obtain ⟨e9, e1, m1, m2, m3, m4⟩ := h6
    subst e9
    have hP1 : cP G I a (zPush z) G2 I2 := by rw [e1]; exact hW0.push hnx9 hn1 hhi hpt9 m1 m2 m3 m4
    clear e1 m1 m2 m3 m4 hSl
    obtain ⟨⟨hSP, hsz, hpe⟩, hTx, hSt, hHi, hSl⟩ := hP1.1
    have oSt : oST G2 (a + 37) := hSP.2.2.2.2.1.2
    obtain ⟨tg9, ⟨f0, oTx⟩, ⟨f1, oPt⟩, ⟨f2, oRd⟩, ⟨f3, -⟩, ⟨f4, oDr⟩, ⟨f5, oHi⟩, ⟨f6, gSl, lSl, ⟨rq0, oS0⟩, ⟨rq1, oS1⟩⟩, ⟨f7, gFi, lFi⟩, ⟨f8, oSe⟩, ⟨f9, oTr⟩, ⟨f10, oBp⟩⟩ := hSP
    have tg0 : mx_tg G2 (a + 1) = 17 := oTx.1
    have tg1 : mx_tg G2 (a + 3) = 12 := oPt.1
    have tg2 : mx_tg G2 (a + 8) = 13 := oRd.1
    have tg3 : mx_tg G2 (a + 37) = 16 := oSt.1
    have tg4 : mx_tg G2 (a + 42) = 16 := oDr.1
    have tg5 : mx_tg G2 (a + 47) = 11 := oHi.1
    have tg6 : mx_tg G2 (a + 131) = 15 := oSe.1
    have tg7 : mx_tg G2 (a + 136) = 15 := oTr.1
    have tg8 : mx_tg G2 (a + 141) = 10 := oBp.1
    obtain ⟨rT, tT, lT⟩ : mx_rf G2 (a + 1) 0 = a + 2 ∧ mx_tg G2 (a + 2) = 2 ∧ mx_ln G2 (a + 2) = 110 := oTx.2
    have oSt0 : oST G2 (a + 37) := oSt
    obtain ⟨-, ⟨rF, tF, lF⟩, ⟨rK, tK, lK⟩, ⟨rO, tO, lO⟩, ⟨rC, tC, lC⟩⟩ : mx_tg G2 (a + 37) = 16 ∧ (mx_rf G2 (a + 37) 2 = a + 38 ∧ mx_tg G2 (a + 38) = 1 ∧ mx_ln G2 (a + 38) = 25) ∧ (mx_rf G2 (a + 37) 3 = a + 39 ∧ mx_tg G2 (a + 39) = 1 ∧ mx_ln G2 (a + 39) = 25) ∧ (mx_rf G2 (a + 37) 4 = a + 40 ∧ mx_tg G2 (a + 40) = 1 ∧ mx_ln G2 (a + 40) = 25) ∧ (mx_rf G2 (a + 37) 5 = a + 41 ∧ mx_tg G2 (a + 41) = 1 ∧ mx_ln G2 (a + 41) = 25) := oSt
    have hSv : stN I2 (a + 37) (zG z) := hSt.1
    obtain ⟨⟨hP8, hN25, hvb⟩, hs0, hs1, hsF, hsK, hsT, hsC⟩ : stN I2 (a + 37) (zG z) := hSt.1
    have hN24 : gN (zG z) ≤ 24 := hSt.2.1.1
    have hTx0 := hTx
    obtain ⟨hn110, ht1, htc, htb⟩ : txN I2 (a + 1) (zN z) (zT z) := hTx
    refine mx_aload_n (i := 0) (hi := rfl) (hl := rfl) (hd := dX9_take_32) ?_
    refine mx_getR (ci := 9) (k := 3) (r := (a + 37)) dX9_take_33 k_299 (by decide) rfl (by assumption) (by assumption) (by omega) ?_
    refine mx_aload_n (i := 0) (hi := rfl) (hl := rfl) (hd := dX9_take_36) ?_
    refine mx_getR (ci := 9) (k := 2) (r := (a + 8)) dX9_take_37 k_298 (by decide) rfl (by assumption) (by assumption) (by omega) ?_
    refine mx_aload_n (i := 0) (hi := rfl) (hl := rfl) (hd := dX9_take_40) ?_
    refine mx_getR (ci := 9) (k := 0) (r := (a + 1)) dX9_take_41 k_296 (by decide) rfl (by assumption) (by assumption) (by omega) ?_
    refine mx_callV (bc := 0) (bs := 0) (ci := 3) (As := [.ref (a + 1)]) (rest := [.ref (a + 37)]) (b1 := 5) (b2 := 97) dX9_take_44 (ct_read G2 I2 (a + 8) (a + 1) (zN z) (mx_sz G2) (zT z) oRd oTx hTx0 rfl (Nat.le_trans (tk_1 a) hsz) (Nat.le_trans (tk_2 a) hsz) (Or.inl (tk_3 a))) km_X3_read rfl k_815 k_816 k_817 (by assumption) rfl rfl (Nat.le_of_ble_eq_true rfl) (by decide) (fun _ _ _ q => q.elim) (fun r7 G3 I3 h8 => ?_)
    obtain ⟨e9, hz3, hsm3, hc1, hc2, hrd3, hrd3r, hpt3, hptn3, hfr3⟩ := h8
    subst e9
    have hP3 := hP1.1.tk (N := mx_sz G2) rfl hz3 hsm3 hc2 hpt3 hptn3 hc1 hfr3 k3
    have tg3 : mx_tg G3 (a + 37) = 16 := hsm3.tg tg3 (by decide)
    have hszN : 0 < mx_sz G2 := Nat.lt_of_lt_of_le (Nat.succ_pos (a + 145)) hsz
    refine mx_putR (ci := 6) (k := 6) dX9_take_47 k_193 (by decide) rfl rfl (by assumption) (by rw [hpt3.1]; decide) ?_
    have f3 : mx_rf (mx_uR G3 (a + 37) 6 (mx_sz G2)) a 3 = a + 37 := hP3.1.1.1.2.2.2.2.1.1
    have tg9 : mx_tg (mx_uR G3 (a + 37) 6 (mx_sz G2)) a = 19 := hP3.1.1.1.1
    have tg3 : mx_tg (mx_uR G3 (a + 37) 6 (mx_sz G2)) (a + 37) = 16 := tg3
    have rfp : mx_rf (mx_uR G3 (a + 37) 6 (mx_sz G2)) (a + 37) 6 = mx_sz G2 := by rw [mx_rf_uR, if_pos ⟨rfl, rfl⟩]
    have tgN : mx_tg (mx_uR G3 (a + 37) 6 (mx_sz G2)) (mx_sz G2) = 12 := hpt3.1
    refine mx_aload_n (i := 0) (hi := rfl) (hl := rfl) (hd := dX9_take_50) ?_
    refine mx_getR (ci := 9) (k := 3) (r := (a + 37)) dX9_take_51 k_299 (by decide) rfl (by assumption) (by assumption) (by omega) ?_
    refine mx_getR (ci := 6) (k := 6) (r := (mx_sz G2)) dX9_take_54 k_193 (by decide) rfl (by assumption) (by assumption) (by omega) ?_
    refine mx_getV (ci := 2) (k := 2) (nI (pL (rdF (zT z) (zN z)))) dX9_take_57 k_86 (by decide) rfl (by assumption) hptn3.2.2.1 ?_
    exact mx_iret dX9_take_60 rfl rfl (⟨by unfold fl_take; rw [if_pos k3], rfl, hP1.tr hP3⟩)
  · skip
    refine mx_iconstN 1 dX9_take_12 (by decide) ?_
    refine mx_goto (tgt := 17) dX9_take_13 (by decide) ?_
    refine mx_top (y := mx_b (decide (pErr (zT z) (zN z) = none))) (mx_bT ((pErr_iff (by omega)).mp c9)) ?_
    refine mx_iconstN 3 dX9_take_17 (by decide) ?_
    refine mx_callS (bc := 5) (bs := 97) (As := [.int (mx_b (decide (pErr (zT z) (zN z) = none))), .int (nI 3)]) (rest := []) (b1 := 1) (b2 := 6) dX9_take_18 (ct_require G I (pErr (zT z) (zN z) = none) 3 (by decide)) km_X9_require rfl k_338 k_339 rfl rfl (Nat.le_of_ble_eq_true rfl) (by decide) (fun E G9 I9 h9 => mx_xo rfl (by have hf : fl_take z = 3 := (by unfold fl_take; rw [if_neg h9.1]); show (fl_take z) ≠ 0 ∧ E = exN (fl_take z) ∧ cP G I a z G9 I9; rw [hf]; exact ⟨by decide, hW0.id.thw h9.2.2⟩)) (fun r9 G11 I10 h12 => ?_)
    obtain ⟨e0, e1, e2, e3⟩ := h12
    have e2 := e2.symm
    subst e1; subst e2; subst e3
    have k3 : pErr (zT z) (zN z) = none := e0.resolve_right (by decide)
    clear e0
    refine mx_aload_n (i := 0) (hi := rfl) (hl := rfl) (hd := dX9_take_21) ?_
    refine mx_getR (ci := 9) (k := 5) (r := (a + 47)) dX9_take_22 k_301 (by decide) rfl (by assumption) (by assumption) (by omega) ?_
    refine mx_aload_n (i := 0) (hi := rfl) (hl := rfl) (hd := dX9_take_25) ?_
    refine mx_getR (ci := 9) (k := 3) (r := (a + 37)) dX9_take_26 k_299 (by decide) rfl (by assumption) (by assumption) (by omega) ?_
    refine mx_callV (bc := 5) (bs := 97) (ci := 1) (As := [.ref (a + 37)]) (rest := []) (b1 := 0) (b2 := 0) dX9_take_29 (ct_remember G I (a + 47) nx9 (zC z) oHi hnx9 hcnt14 hn1 hn2 (a + 37) pt9 _ oSt0 hSv hpt9 tgp9 (by omega)) km_X1_remember rfl k_762 k_763 k_764 (by assumption) rfl rfl (Nat.le_of_ble_eq_true rfl) (by decide) (fun _ _ _ q => q.elim) (fun r13 G2 I2 h14 => ?_)
    obtain ⟨e9, e1, m1, m2, m3, m4⟩ := h14
    subst e9
    have hP1 : cP G I a (zPush z) G2 I2 := by rw [e1]; exact hW0.push hnx9 hn1 hhi hpt9 m1 m2 m3 m4
    clear e1 m1 m2 m3 m4 hSl
    obtain ⟨⟨hSP, hsz, hpe⟩, hTx, hSt, hHi, hSl⟩ := hP1.1
    have oSt : oST G2 (a + 37) := hSP.2.2.2.2.1.2
    obtain ⟨tg9, ⟨f0, oTx⟩, ⟨f1, oPt⟩, ⟨f2, oRd⟩, ⟨f3, -⟩, ⟨f4, oDr⟩, ⟨f5, oHi⟩, ⟨f6, gSl, lSl, ⟨rq0, oS0⟩, ⟨rq1, oS1⟩⟩, ⟨f7, gFi, lFi⟩, ⟨f8, oSe⟩, ⟨f9, oTr⟩, ⟨f10, oBp⟩⟩ := hSP
    have tg0 : mx_tg G2 (a + 1) = 17 := oTx.1
    have tg1 : mx_tg G2 (a + 3) = 12 := oPt.1
    have tg2 : mx_tg G2 (a + 8) = 13 := oRd.1
    have tg3 : mx_tg G2 (a + 37) = 16 := oSt.1
    have tg4 : mx_tg G2 (a + 42) = 16 := oDr.1
    have tg5 : mx_tg G2 (a + 47) = 11 := oHi.1
    have tg6 : mx_tg G2 (a + 131) = 15 := oSe.1
    have tg7 : mx_tg G2 (a + 136) = 15 := oTr.1
    have tg8 : mx_tg G2 (a + 141) = 10 := oBp.1
    obtain ⟨rT, tT, lT⟩ : mx_rf G2 (a + 1) 0 = a + 2 ∧ mx_tg G2 (a + 2) = 2 ∧ mx_ln G2 (a + 2) = 110 := oTx.2
    have oSt0 : oST G2 (a + 37) := oSt
    obtain ⟨-, ⟨rF, tF, lF⟩, ⟨rK, tK, lK⟩, ⟨rO, tO, lO⟩, ⟨rC, tC, lC⟩⟩ : mx_tg G2 (a + 37) = 16 ∧ (mx_rf G2 (a + 37) 2 = a + 38 ∧ mx_tg G2 (a + 38) = 1 ∧ mx_ln G2 (a + 38) = 25) ∧ (mx_rf G2 (a + 37) 3 = a + 39 ∧ mx_tg G2 (a + 39) = 1 ∧ mx_ln G2 (a + 39) = 25) ∧ (mx_rf G2 (a + 37) 4 = a + 40 ∧ mx_tg G2 (a + 40) = 1 ∧ mx_ln G2 (a + 40) = 25) ∧ (mx_rf G2 (a + 37) 5 = a + 41 ∧ mx_tg G2 (a + 41) = 1 ∧ mx_ln G2 (a + 41) = 25) := oSt
    have hSv : stN I2 (a + 37) (zG z) := hSt.1
    obtain ⟨⟨hP8, hN25, hvb⟩, hs0, hs1, hsF, hsK, hsT, hsC⟩ : stN I2 (a + 37) (zG z) := hSt.1
    have hN24 : gN (zG z) ≤ 24 := hSt.2.1.1
    have hTx0 := hTx
    obtain ⟨hn110, ht1, htc, htb⟩ : txN I2 (a + 1) (zN z) (zT z) := hTx
    refine mx_aload_n (i := 0) (hi := rfl) (hl := rfl) (hd := dX9_take_32) ?_
    refine mx_getR (ci := 9) (k := 3) (r := (a + 37)) dX9_take_33 k_299 (by decide) rfl (by assumption) (by assumption) (by omega) ?_
    refine mx_aload_n (i := 0) (hi := rfl) (hl := rfl) (hd := dX9_take_36) ?_
    refine mx_getR (ci := 9) (k := 2) (r := (a + 8)) dX9_take_37 k_298 (by decide) rfl (by assumption) (by assumption) (by omega) ?_
    refine mx_aload_n (i := 0) (hi := rfl) (hl := rfl) (hd := dX9_take_40) ?_
    refine mx_getR (ci := 9) (k := 0) (r := (a + 1)) dX9_take_41 k_296 (by decide) rfl (by assumption) (by assumption) (by omega) ?_
    refine mx_callV (bc := 0) (bs := 0) (ci := 3) (As := [.ref (a + 1)]) (rest := [.ref (a + 37)]) (b1 := 5) (b2 := 97) dX9_take_44 (ct_read G2 I2 (a + 8) (a + 1) (zN z) (mx_sz G2) (zT z) oRd oTx hTx0 rfl (Nat.le_trans (tk_1 a) hsz) (Nat.le_trans (tk_2 a) hsz) (Or.inl (tk_3 a))) km_X3_read rfl k_815 k_816 k_817 (by assumption) rfl rfl (Nat.le_of_ble_eq_true rfl) (by decide) (fun _ _ _ q => q.elim) (fun r15 G3 I3 h16 => ?_)
    obtain ⟨e9, hz3, hsm3, hc1, hc2, hrd3, hrd3r, hpt3, hptn3, hfr3⟩ := h16
    subst e9
    have hP3 := hP1.1.tk (N := mx_sz G2) rfl hz3 hsm3 hc2 hpt3 hptn3 hc1 hfr3 k3
    have tg3 : mx_tg G3 (a + 37) = 16 := hsm3.tg tg3 (by decide)
    have hszN : 0 < mx_sz G2 := Nat.lt_of_lt_of_le (Nat.succ_pos (a + 145)) hsz
    refine mx_putR (ci := 6) (k := 6) dX9_take_47 k_193 (by decide) rfl rfl (by assumption) (by rw [hpt3.1]; decide) ?_
    have f3 : mx_rf (mx_uR G3 (a + 37) 6 (mx_sz G2)) a 3 = a + 37 := hP3.1.1.1.2.2.2.2.1.1
    have tg9 : mx_tg (mx_uR G3 (a + 37) 6 (mx_sz G2)) a = 19 := hP3.1.1.1.1
    have tg3 : mx_tg (mx_uR G3 (a + 37) 6 (mx_sz G2)) (a + 37) = 16 := tg3
    have rfp : mx_rf (mx_uR G3 (a + 37) 6 (mx_sz G2)) (a + 37) 6 = mx_sz G2 := by rw [mx_rf_uR, if_pos ⟨rfl, rfl⟩]
    have tgN : mx_tg (mx_uR G3 (a + 37) 6 (mx_sz G2)) (mx_sz G2) = 12 := hpt3.1
    refine mx_aload_n (i := 0) (hi := rfl) (hl := rfl) (hd := dX9_take_50) ?_
    refine mx_getR (ci := 9) (k := 3) (r := (a + 37)) dX9_take_51 k_299 (by decide) rfl (by assumption) (by assumption) (by omega) ?_
    refine mx_getR (ci := 6) (k := 6) (r := (mx_sz G2)) dX9_take_54 k_193 (by decide) rfl (by assumption) (by assumption) (by omega) ?_
    refine mx_getV (ci := 2) (k := 2) (nI (pL (rdF (zT z) (zN z)))) dX9_take_57 k_86 (by decide) rfl (by assumption) hptn3.2.2.1 ?_
    exact mx_iret dX9_take_60 rfl rfl (⟨by unfold fl_take; rw [if_pos k3], rfl, hP1.tr hP3⟩)

set_option maxHeartbeats 600000 in
set_option maxRecDepth 100000 in
theorem ct_undo (G : mx_G) (I : mx_I) (a : Nat) (z : Zs) (hW : cW G I a z) : mx_CT yX9_undo mX9_undo 8 1 6 [.ref a] G I (fun rv Gz Iz => fl_undo z = 0 ∧ rv = some (.int (nI (zC z - 1))) ∧ cP G I a (nx_undo z) Gz Iz) (fun E Gz Iz => (fl_undo z) ≠ 0 ∧ E = exN (fl_undo z) ∧ cP G I a z Gz Iz) := by
  refine mx_start (k := 0) (by decide) rfl rfl (fun h => nomatch h) (Nat.le_of_ble_eq_true rfl) ?_
  show mx_V mX9_undo mx_S0 8 1 6 0 [some (.ref a)] [] G I (fun rv Gz Iz => fl_undo z = 0 ∧ rv = some (.int (nI (zC z - 1))) ∧ cP G I a (nx_undo z) Gz Iz) (fun E Gz Iz => (fl_undo z) ≠ 0 ∧ E = exN (fl_undo z) ∧ cP G I a z Gz Iz)
  have hW0 := hW
  obtain ⟨⟨hSP, hsz, hpe⟩, hTx, hSt, hHi, hSl⟩ := hW
  have oSt : oST G (a + 37) := hSP.2.2.2.2.1.2
  obtain ⟨tg9, ⟨f0, oTx⟩, ⟨f1, oPt⟩, ⟨f2, oRd⟩, ⟨f3, -⟩, ⟨f4, oDr⟩, ⟨f5, oHi⟩, ⟨f6, gSl, lSl, ⟨rq0, oS0⟩, ⟨rq1, oS1⟩⟩, ⟨f7, gFi, lFi⟩, ⟨f8, oSe⟩, ⟨f9, oTr⟩, ⟨f10, oBp⟩⟩ := hSP
  have tg0 : mx_tg G (a + 1) = 17 := oTx.1
  have tg1 : mx_tg G (a + 3) = 12 := oPt.1
  have tg2 : mx_tg G (a + 8) = 13 := oRd.1
  have tg3 : mx_tg G (a + 37) = 16 := oSt.1
  have tg4 : mx_tg G (a + 42) = 16 := oDr.1
  have tg5 : mx_tg G (a + 47) = 11 := oHi.1
  have tg6 : mx_tg G (a + 131) = 15 := oSe.1
  have tg7 : mx_tg G (a + 136) = 15 := oTr.1
  have tg8 : mx_tg G (a + 141) = 10 := oBp.1
  obtain ⟨rT, tT, lT⟩ : mx_rf G (a + 1) 0 = a + 2 ∧ mx_tg G (a + 2) = 2 ∧ mx_ln G (a + 2) = 110 := oTx.2
  have oSt0 : oST G (a + 37) := oSt
  obtain ⟨-, ⟨rF, tF, lF⟩, ⟨rK, tK, lK⟩, ⟨rO, tO, lO⟩, ⟨rC, tC, lC⟩⟩ : mx_tg G (a + 37) = 16 ∧ (mx_rf G (a + 37) 2 = a + 38 ∧ mx_tg G (a + 38) = 1 ∧ mx_ln G (a + 38) = 25) ∧ (mx_rf G (a + 37) 3 = a + 39 ∧ mx_tg G (a + 39) = 1 ∧ mx_ln G (a + 39) = 25) ∧ (mx_rf G (a + 37) 4 = a + 40 ∧ mx_tg G (a + 40) = 1 ∧ mx_ln G (a + 40) = 25) ∧ (mx_rf G (a + 37) 5 = a + 41 ∧ mx_tg G (a + 41) = 1 ∧ mx_ln G (a + 41) = 25) := oSt
  have hSv : stN I (a + 37) (zG z) := hSt.1
  obtain ⟨⟨hP8, hN25, hvb⟩, hs0, hs1, hsF, hsK, hsT, hsC⟩ : stN I (a + 37) (zG z) := hSt.1
  have hN24 : gN (zG z) ≤ 24 := hSt.2.1.1
  have hTx0 := hTx
  obtain ⟨hn110, ht1, htc, htb⟩ : txN I (a + 1) (zN z) (zT z) := hTx
  obtain ⟨hcnt14, nx9, hnx9, hn1, hn2, hhi⟩ := hHi
  obtain ⟨pt9, hpt9⟩ : ∃ pt, mx_rf G (a + 37) 6 = pt := ⟨_, rfl⟩
  have tgp9 : mx_tg G pt9 = 12 := by rw [← hpt9]; exact hW0.2.2.1.2.2.2.2.1.1
  have J15 : ∀ (_ : Unit), mx_V mX9_undo mx_S0 8 1 6 15 [some (.ref a)] [.int (mx_b (decide (0 < zC z)))] G I (fun rv Gz Iz => fl_undo z = 0 ∧ rv = some (.int (nI (zC z - 1))) ∧ cP G I a (nx_undo z) Gz Iz) (fun E Gz Iz => (fl_undo z) ≠ 0 ∧ E = exN (fl_undo z) ∧ cP G I a z Gz Iz) := by
    intro _ 
    refine mx_iconstN 3 dX9_undo_15 (by decide) ?_
    refine mx_callS (As := [.int (mx_b (decide (0 < zC z))), .int (nI 3)]) (rest := []) (b1 := 1) (b2 := 6) dX9_undo_16 (ct_require G I (0 < zC z) 3 (by decide)) km_X9_require rfl k_338 k_339 rfl rfl (Nat.le_of_ble_eq_true rfl) (by decide) (fun E G9 I9 h9 => mx_xo rfl (by have hf : fl_undo z = 3 := (by unfold fl_undo; rw [if_neg h9.1]); show (fl_undo z) ≠ 0 ∧ E = exN (fl_undo z) ∧ cP G I a z G9 I9; rw [hf]; exact ⟨by decide, hW0.id.thw h9.2.2⟩)) (fun r1 G3 I2 h4 => ?_)
    obtain ⟨e0, e1, e2, e3⟩ := h4
    have e2 := e2.symm
    subst e1; subst e2; subst e3
    have k3 : 0 < zC z := e0.resolve_right (by decide)
    clear e0
    have hl9 := hhi (zC z - 1) (by omega)
    rw [show a + 49 + 5 * ((nx9 + 14 - zC z + (zC z - 1)) % 14) = a + 47 + 2 + 5 * ((nx9 + 13) % 14) by omega] at hl9
    obtain ⟨pt8, hpt8⟩ : ∃ pt, mx_rf G (a + 47 + 2 + 5 * ((nx9 + 13) % 14)) 6 = pt := ⟨_, rfl⟩
    have tgp8 : mx_tg G pt8 = 12 := by rw [← hpt8]; exact hl9.2.2.2.2.1.1
    refine mx_aload_n (i := 0) (hi := rfl) (hl := rfl) (hd := dX9_undo_19) ?_
    refine mx_getR (ci := 9) (k := 5) (r := (a + 47)) dX9_undo_20 k_301 (by decide) rfl (by assumption) (by assumption) (by omega) ?_
    refine mx_aload_n (i := 0) (hi := rfl) (hl := rfl) (hd := dX9_undo_23) ?_
    refine mx_getR (ci := 9) (k := 3) (r := (a + 37)) dX9_undo_24 k_299 (by decide) rfl (by assumption) (by assumption) (by omega) ?_
    refine mx_callV (ci := 1) (As := [.ref (a + 37)]) (rest := []) (b1 := 0) (b2 := 0) dX9_undo_27 (ct_bringBack G I (a + 47) nx9 (zC z) oHi hnx9 hcnt14 hn1 hn2 k3 (a + 37) pt8 (zH z (zC z - 1)).1 oSt0 hl9.1 hpt8 tgp8 (by omega)) km_X1_bringBack rfl k_860 k_861 k_862 (by assumption) rfl rfl (Nat.le_of_ble_eq_true rfl) (by decide) (fun _ _ _ q => q.elim) (fun r5 G2 I2 h6 => ?_)
    obtain ⟨e9, e1, m1, m2, m3, m4⟩ := h6
    subst e9
    have hP1 : cP G I a (nx_undo z) G2 I2 := by rw [e1]; exact hW0.pop hnx9 k3 hhi hpt8 m1 m2 m3 m4
    clear e1 m1 m2 m4
    have tg9 : mx_tg G2 a = 19 := hP1.1.1.1.1
    have f5 : mx_rf G2 a 5 = a + 47 := hP1.1.1.1.2.2.2.2.2.2.1.1
    have tg5 : mx_tg G2 (a + 47) = 11 := hP1.1.1.1.2.2.2.2.2.2.1.2.1
    refine mx_aload_n (i := 0) (hi := rfl) (hl := rfl) (hd := dX9_undo_30) ?_
    refine mx_getR (ci := 9) (k := 5) (r := (a + 47)) dX9_undo_31 k_301 (by decide) rfl (by assumption) (by assumption) (by omega) ?_
    refine mx_getV (ci := 1) (k := 2) (nI (zC z - 1)) dX9_undo_34 k_222 (by decide) rfl (by assumption) m3 ?_
    exact mx_iret dX9_undo_37 rfl rfl (⟨by unfold fl_undo; rw [if_pos k3], rfl, hP1⟩)
  refine mx_aload_n (i := 0) (hi := rfl) (hl := rfl) (hd := dX9_undo_0) ?_
  refine mx_getR (ci := 9) (k := 5) (r := (a + 47)) dX9_undo_1 k_301 (by decide) rfl (by assumption) (by assumption) (by omega) ?_
  refine mx_getV (ci := 1) (k := 2) (nI (zC z)) dX9_undo_4 k_222 (by decide) rfl (by assumption) hn2 ?_
  refine mx_ifN_le 14 dX9_undo_7 (by decide) (by omega) (fun c7 => ?_) (fun c7 => ?_)
  · skip
    refine mx_iconstN 0 dX9_undo_14 (by decide) ?_
    refine mx_top (y := mx_b (decide (0 < zC z))) (mx_bF (by omega)) ?_
    exact J15 () 
  · skip
    refine mx_iconstN 1 dX9_undo_10 (by decide) ?_
    refine mx_goto (tgt := 15) dX9_undo_11 (by decide) ?_
    refine mx_top (y := mx_b (decide (0 < zC z))) (mx_bT (by omega)) ?_
    exact J15 () 

set_option maxHeartbeats 600000 in
set_option maxRecDepth 100000 in
theorem ct_save (G : mx_G) (I : mx_I) (a : Nat) (z : Zs) (hW : cW G I a z) (s : Int32) : mx_CT yX9_save mX9_save 8 1 6 [.ref a, .int s] G I (fun rv Gz Iz => fl_slot s = 0 ∧ rv = some (.int (nI (gN (zG z)))) ∧ cP G I a (nx_save z s.toInt.toNat) Gz Iz) (fun E Gz Iz => (fl_slot s) ≠ 0 ∧ E = exN (fl_slot s) ∧ cP G I a z Gz Iz) := by
  refine mx_start (k := 0) (by decide) rfl rfl (fun h => nomatch h) (Nat.le_of_ble_eq_true rfl) ?_
  show mx_V mX9_save mx_S0 8 1 6 0 [some (.ref a), some (.int s)] [] G I (fun rv Gz Iz => fl_slot s = 0 ∧ rv = some (.int (nI (gN (zG z)))) ∧ cP G I a (nx_save z s.toInt.toNat) Gz Iz) (fun E Gz Iz => (fl_slot s) ≠ 0 ∧ E = exN (fl_slot s) ∧ cP G I a z Gz Iz)
  have hW0 := hW
  obtain ⟨⟨hSP, hsz, hpe⟩, hTx, hSt, hHi, hSl⟩ := hW
  have oSt : oST G (a + 37) := hSP.2.2.2.2.1.2
  obtain ⟨tg9, ⟨f0, oTx⟩, ⟨f1, oPt⟩, ⟨f2, oRd⟩, ⟨f3, -⟩, ⟨f4, oDr⟩, ⟨f5, oHi⟩, ⟨f6, gSl, lSl, ⟨rq0, oS0⟩, ⟨rq1, oS1⟩⟩, ⟨f7, gFi, lFi⟩, ⟨f8, oSe⟩, ⟨f9, oTr⟩, ⟨f10, oBp⟩⟩ := hSP
  have tg0 : mx_tg G (a + 1) = 17 := oTx.1
  have tg1 : mx_tg G (a + 3) = 12 := oPt.1
  have tg2 : mx_tg G (a + 8) = 13 := oRd.1
  have tg3 : mx_tg G (a + 37) = 16 := oSt.1
  have tg4 : mx_tg G (a + 42) = 16 := oDr.1
  have tg5 : mx_tg G (a + 47) = 11 := oHi.1
  have tg6 : mx_tg G (a + 131) = 15 := oSe.1
  have tg7 : mx_tg G (a + 136) = 15 := oTr.1
  have tg8 : mx_tg G (a + 141) = 10 := oBp.1
  obtain ⟨rT, tT, lT⟩ : mx_rf G (a + 1) 0 = a + 2 ∧ mx_tg G (a + 2) = 2 ∧ mx_ln G (a + 2) = 110 := oTx.2
  have oSt0 : oST G (a + 37) := oSt
  obtain ⟨-, ⟨rF, tF, lF⟩, ⟨rK, tK, lK⟩, ⟨rO, tO, lO⟩, ⟨rC, tC, lC⟩⟩ : mx_tg G (a + 37) = 16 ∧ (mx_rf G (a + 37) 2 = a + 38 ∧ mx_tg G (a + 38) = 1 ∧ mx_ln G (a + 38) = 25) ∧ (mx_rf G (a + 37) 3 = a + 39 ∧ mx_tg G (a + 39) = 1 ∧ mx_ln G (a + 39) = 25) ∧ (mx_rf G (a + 37) 4 = a + 40 ∧ mx_tg G (a + 40) = 1 ∧ mx_ln G (a + 40) = 25) ∧ (mx_rf G (a + 37) 5 = a + 41 ∧ mx_tg G (a + 41) = 1 ∧ mx_ln G (a + 41) = 25) := oSt
  have hSv : stN I (a + 37) (zG z) := hSt.1
  obtain ⟨⟨hP8, hN25, hvb⟩, hs0, hs1, hsF, hsK, hsT, hsC⟩ : stN I (a + 37) (zG z) := hSt.1
  have hN24 : gN (zG z) ≤ 24 := hSt.2.1.1
  have hTx0 := hTx
  obtain ⟨hn110, ht1, htc, htb⟩ : txN I (a + 1) (zN z) (zT z) := hTx
  have hrq : ∀ s, s < 2 → mx_rf G (a + 119) s = a + 120 + 5 * s := fun s hs => by
    rcases (show s = 0 ∨ s = 1 by omega) with rfl | rfl
    · exact rq0
    · exact rq1
  have oSl : ∀ s, s < 2 → oST G (a + 120 + 5 * s) := fun s hs => by
    rcases (show s = 0 ∨ s = 1 by omega) with rfl | rfl
    · exact oS0
    · exact oS1
  obtain ⟨pt9, hpt9⟩ : ∃ pt, mx_rf G (a + 37) 6 = pt := ⟨_, rfl⟩
  have tgp9 : mx_tg G pt9 = 12 := by rw [← hpt9]; exact hW0.2.2.1.2.2.2.2.1.1
  refine mx_iload_n (i := 1) (hi := rfl) (hl := rfl) (hd := dX9_save_0) ?_
  refine mx_callSp (As := [.int s]) (rest := []) dX9_save_1 (ct_isSlot G I s) km_X9_isSlot rfl k_959 k_960 rfl rfl (Nat.le_of_ble_eq_true rfl) (by decide) ?_
  refine mx_iconstN 1 dX9_save_4 (by decide) ?_
  refine mx_callS (As := [.int (mx_b (decide (0 ≤ s.toInt ∧ s.toInt < 2))), .int (nI 1)]) (rest := []) (b1 := 1) (b2 := 6) dX9_save_5 (ct_require G I (0 ≤ s.toInt ∧ s.toInt < 2) 1 (by decide)) km_X9_require rfl k_338 k_339 rfl rfl (Nat.le_of_ble_eq_true rfl) (by decide) (fun E G9 I9 h9 => mx_xo rfl (by have hf : fl_slot s = 1 := (by unfold fl_slot; rw [if_pos h9.1]); show (fl_slot s) ≠ 0 ∧ E = exN (fl_slot s) ∧ cP G I a z G9 I9; rw [hf]; exact ⟨by decide, hW0.id.thw h9.2.2⟩)) (fun r1 G3 I2 h4 => ?_)
  obtain ⟨e0, e1, e2, e3⟩ := h4
  have e2 := e2.symm
  subst e1; subst e2; subst e3
  have k1 : 0 ≤ s.toInt ∧ s.toInt < 2 := e0.resolve_right (by decide)
  clear e0
  have hs9 : s = nI s.toInt.toNat := (mx_nn k1.1).symm
  have hs2 : s.toInt.toNat < 2 := lt2 k1
  generalize hsn : s.toInt.toNat = sn at hs9 hs2 ⊢
  have tgs := (oSl sn hs2).1
  refine mx_aload_n (i := 0) (hi := rfl) (hl := rfl) (hd := dX9_save_8) ?_
  refine mx_getR (ci := 9) (k := 6) (r := (a + 119)) dX9_save_9 k_302 (by decide) rfl (by assumption) (by assumption) (by omega) ?_
  refine mx_iload_n (i := 1) (hi := rfl) (hl := rfl) (hd := dX9_save_12) ?_
  refine mx_aald (r := (a + 120 + 5 * sn)) sn dX9_save_13 (by assumption) (by decide) ⟨hs9, by omega, by omega⟩ (hrq _ (by omega)) (by rw [(oSl _ (by omega)).1]; decide) ?_
  refine mx_aload_n (i := 0) (hi := rfl) (hl := rfl) (hd := dX9_save_14) ?_
  refine mx_getR (ci := 9) (k := 3) (r := (a + 37)) dX9_save_15 k_299 (by decide) rfl (by assumption) (by assumption) (by omega) ?_
  refine mx_callV (ci := 6) (As := [.ref (a + 37)]) (rest := []) (b1 := 0) (b2 := 0) dX9_save_18 (ct_copyFrom G I (a + 120 + 5 * sn) (a + 37) pt9 _ (oSl _ (by omega)) oSt0 hSv (Or.inr (by omega)) hpt9 tgp9) km_X6_copyFrom rfl k_448 k_449 k_450 (by assumption) rfl rfl (Nat.le_of_ble_eq_true rfl) (by decide) (fun _ _ _ q => q.elim) (fun r5 G2 I2 h6 => ?_)
  obtain ⟨e9, e1, m1, m3⟩ := h6
  subst e9; subst e1
  have hP1 : cP G I a (nx_save z sn) (mx_uR G (a + 120 + 5 * sn) 6 pt9) (mx_u I2 (a + 130) sn (nI 1)) := hW0.sv (by omega) hpt9 (m1.k (fun b q1 q2 => by funext k; rw [mx_u_at, if_neg (fun q => sv_ne q1 q2 hs2 q.1)])) (by rw [mx_u_at, if_pos ⟨rfl, rfl⟩]) (fun j hj => by rw [mx_u_at, if_neg (fun q => hj q.2), m3 _ (Or.inr (by omega))]) (fun b q1 q2 => by funext k; rw [mx_u_at, if_neg (fun q => q2 q.1), m3 b q1])
  have tg9 : mx_tg (mx_uR G (a + 120 + 5 * sn) 6 pt9) a = 19 := hP1.1.1.1.1
  have f3 : mx_rf (mx_uR G (a + 120 + 5 * sn) 6 pt9) a 3 = a + 37 := hP1.1.1.1.2.2.2.2.1.1
  have f7 : mx_rf (mx_uR G (a + 120 + 5 * sn) 6 pt9) a 7 = a + 130 := hP1.1.1.1.2.2.2.2.2.2.2.2.1.1
  have gFi : mx_tg (mx_uR G (a + 120 + 5 * sn) 6 pt9) (a + 130) = 3 := gFi
  have lFi : mx_ln (mx_uR G (a + 120 + 5 * sn) 6 pt9) (a + 130) = 2 := lFi
  have tg3 : mx_tg (mx_uR G (a + 120 + 5 * sn) 6 pt9) (a + 37) = 16 := tg3
  refine mx_aload_n (i := 0) (hi := rfl) (hl := rfl) (hd := dX9_save_21) ?_
  refine mx_getR (ci := 9) (k := 7) (r := (a + 130)) dX9_save_22 k_303 (by decide) rfl (by assumption) (by assumption) (by omega) ?_
  refine mx_iload_n (i := 1) (hi := rfl) (hl := rfl) (hd := dX9_save_25) ?_
  refine mx_iconstN 1 dX9_save_26 (by decide) ?_
  refine mx_zast sn dX9_save_27 (by assumption) ⟨hs9, by rw [lFi]; omega, by rw [lFi]; decide⟩ (by decide) ?_
  refine mx_aload_n (i := 0) (hi := rfl) (hl := rfl) (hd := dX9_save_28) ?_
  refine mx_getR (ci := 9) (k := 3) (r := (a + 37)) dX9_save_29 k_299 (by decide) rfl (by assumption) (by assumption) (by omega) ?_
  refine mx_getV (ci := 6) (k := 1) (nI (gN (zG z))) dX9_save_32 k_170 (by decide) rfl (by assumption) (by rw [mx_u_at, if_neg (by omega)]; exact (by rw [m3 _ (Or.inl (by omega))]; exact hs1)) ?_
  exact mx_iret dX9_save_35 rfl rfl (⟨by unfold fl_slot; rw [if_neg (fun q => q k1)], rfl, hP1⟩)

set_option maxHeartbeats 600000 in
set_option maxRecDepth 100000 in
theorem ct_restore (G : mx_G) (I : mx_I) (a : Nat) (z : Zs) (hW : cW G I a z) (s : Int32) : mx_CT yX9_restore mX9_restore 8 2 12 [.ref a, .int s] G I (fun rv Gz Iz => fl_restore z s = 0 ∧ rv = some (.int (nI (gN (zK z s.toInt.toNat).1))) ∧ cP G I a (nx_restore z s.toInt.toNat) Gz Iz) (fun E Gz Iz => (fl_restore z s) ≠ 0 ∧ E = exN (fl_restore z s) ∧ cP G I a z Gz Iz) := by
  refine mx_start (k := 0) (by decide) rfl rfl (fun h => nomatch h) (Nat.le_of_ble_eq_true rfl) ?_
  show mx_V mX9_restore mx_S0 8 2 12 0 [some (.ref a), some (.int s)] [] G I (fun rv Gz Iz => fl_restore z s = 0 ∧ rv = some (.int (nI (gN (zK z s.toInt.toNat).1))) ∧ cP G I a (nx_restore z s.toInt.toNat) Gz Iz) (fun E Gz Iz => (fl_restore z s) ≠ 0 ∧ E = exN (fl_restore z s) ∧ cP G I a z Gz Iz)
  have hW0 := hW
  obtain ⟨⟨hSP, hsz, hpe⟩, hTx, hSt, hHi, hSl⟩ := hW
  have oSt : oST G (a + 37) := hSP.2.2.2.2.1.2
  obtain ⟨tg9, ⟨f0, oTx⟩, ⟨f1, oPt⟩, ⟨f2, oRd⟩, ⟨f3, -⟩, ⟨f4, oDr⟩, ⟨f5, oHi⟩, ⟨f6, gSl, lSl, ⟨rq0, oS0⟩, ⟨rq1, oS1⟩⟩, ⟨f7, gFi, lFi⟩, ⟨f8, oSe⟩, ⟨f9, oTr⟩, ⟨f10, oBp⟩⟩ := hSP
  have tg0 : mx_tg G (a + 1) = 17 := oTx.1
  have tg1 : mx_tg G (a + 3) = 12 := oPt.1
  have tg2 : mx_tg G (a + 8) = 13 := oRd.1
  have tg3 : mx_tg G (a + 37) = 16 := oSt.1
  have tg4 : mx_tg G (a + 42) = 16 := oDr.1
  have tg5 : mx_tg G (a + 47) = 11 := oHi.1
  have tg6 : mx_tg G (a + 131) = 15 := oSe.1
  have tg7 : mx_tg G (a + 136) = 15 := oTr.1
  have tg8 : mx_tg G (a + 141) = 10 := oBp.1
  obtain ⟨rT, tT, lT⟩ : mx_rf G (a + 1) 0 = a + 2 ∧ mx_tg G (a + 2) = 2 ∧ mx_ln G (a + 2) = 110 := oTx.2
  have oSt0 : oST G (a + 37) := oSt
  obtain ⟨-, ⟨rF, tF, lF⟩, ⟨rK, tK, lK⟩, ⟨rO, tO, lO⟩, ⟨rC, tC, lC⟩⟩ : mx_tg G (a + 37) = 16 ∧ (mx_rf G (a + 37) 2 = a + 38 ∧ mx_tg G (a + 38) = 1 ∧ mx_ln G (a + 38) = 25) ∧ (mx_rf G (a + 37) 3 = a + 39 ∧ mx_tg G (a + 39) = 1 ∧ mx_ln G (a + 39) = 25) ∧ (mx_rf G (a + 37) 4 = a + 40 ∧ mx_tg G (a + 40) = 1 ∧ mx_ln G (a + 40) = 25) ∧ (mx_rf G (a + 37) 5 = a + 41 ∧ mx_tg G (a + 41) = 1 ∧ mx_ln G (a + 41) = 25) := oSt
  have hSv : stN I (a + 37) (zG z) := hSt.1
  obtain ⟨⟨hP8, hN25, hvb⟩, hs0, hs1, hsF, hsK, hsT, hsC⟩ : stN I (a + 37) (zG z) := hSt.1
  have hN24 : gN (zG z) ≤ 24 := hSt.2.1.1
  have hTx0 := hTx
  obtain ⟨hn110, ht1, htc, htb⟩ : txN I (a + 1) (zN z) (zT z) := hTx
  have hrq : ∀ s, s < 2 → mx_rf G (a + 119) s = a + 120 + 5 * s := fun s hs => by
    rcases (show s = 0 ∨ s = 1 by omega) with rfl | rfl
    · exact rq0
    · exact rq1
  have oSl : ∀ s, s < 2 → oST G (a + 120 + 5 * s) := fun s hs => by
    rcases (show s = 0 ∨ s = 1 by omega) with rfl | rfl
    · exact oS0
    · exact oS1
  obtain ⟨pt9, hpt9⟩ : ∃ pt, mx_rf G (a + 37) 6 = pt := ⟨_, rfl⟩
  have tgp9 : mx_tg G pt9 = 12 := by rw [← hpt9]; exact hW0.2.2.1.2.2.2.2.1.1
  refine mx_iload_n (i := 1) (hi := rfl) (hl := rfl) (hd := dX9_restore_0) ?_
  refine mx_callSp (As := [.int s]) (rest := []) dX9_restore_1 (ct_isSlot G I s) km_X9_isSlot rfl k_959 k_960 rfl rfl (Nat.le_of_ble_eq_true rfl) (by decide) ?_
  refine mx_iconstN 1 dX9_restore_4 (by decide) ?_
  refine mx_callS (As := [.int (mx_b (decide (0 ≤ s.toInt ∧ s.toInt < 2))), .int (nI 1)]) (rest := []) (b1 := 1) (b2 := 6) dX9_restore_5 (ct_require G I (0 ≤ s.toInt ∧ s.toInt < 2) 1 (by decide)) km_X9_require rfl k_338 k_339 rfl rfl (Nat.le_of_ble_eq_true rfl) (by decide) (fun E G9 I9 h9 => mx_xo rfl (by have hf : fl_restore z s = 1 := (by unfold fl_restore; rw [if_pos h9.1]); show (fl_restore z s) ≠ 0 ∧ E = exN (fl_restore z s) ∧ cP G I a z G9 I9; rw [hf]; exact ⟨by decide, hW0.id.thw h9.2.2⟩)) (fun r1 G3 I2 h4 => ?_)
  obtain ⟨e0, e1, e2, e3⟩ := h4
  have e2 := e2.symm
  subst e1; subst e2; subst e3
  have k1 : 0 ≤ s.toInt ∧ s.toInt < 2 := e0.resolve_right (by decide)
  clear e0
  have hs9 : s = nI s.toInt.toNat := (mx_nn k1.1).symm
  have hs2 : s.toInt.toNat < 2 := lt2 k1
  generalize hsn : s.toInt.toNat = sn at hs9 hs2 ⊢
  have tgs := (oSl sn hs2).1
  refine mx_aload_n (i := 0) (hi := rfl) (hl := rfl) (hd := dX9_restore_8) ?_
  refine mx_getR (ci := 9) (k := 7) (r := (a + 130)) dX9_restore_9 k_303 (by decide) rfl (by assumption) (by assumption) (by omega) ?_
  refine mx_iload_n (i := 1) (hi := rfl) (hl := rfl) (hd := dX9_restore_12) ?_
  refine mx_zaldV sn (mx_b (decide (zF z sn = true)) : Int32) dX9_restore_13 (by assumption) ⟨hs9, by rw [lFi]; omega, by rw [lFi]; decide⟩ (by rw [mx_dec]; exact (hSl _ (by omega)).1) ?_
  refine mx_iconstN 3 dX9_restore_14 (by decide) ?_
  refine mx_callS (As := [.int (mx_b (decide (zF z sn = true))), .int (nI 3)]) (rest := []) (b1 := 1) (b2 := 6) dX9_restore_15 (ct_require G I (zF z sn = true) 3 (by decide)) km_X9_require rfl k_338 k_339 rfl rfl (Nat.le_of_ble_eq_true rfl) (by decide) (fun E G9 I9 h9 => mx_xo rfl (by have hf : fl_restore z s = 3 := (by unfold fl_restore; rw [if_neg (fun q => q k1), if_pos (by rw [hsn]; exact h9.1)]); show (fl_restore z s) ≠ 0 ∧ E = exN (fl_restore z s) ∧ cP G I a z G9 I9; rw [hf]; exact ⟨by decide, hW0.id.thw h9.2.2⟩)) (fun r5 G7 I6 h8 => ?_)
  obtain ⟨e0, e1, e2, e3⟩ := h8
  have e2 := e2.symm
  subst e1; subst e2; subst e3
  have k3 : zF z sn = true := e0.resolve_right (by decide)
  clear e0
  have hl9 := (hSl sn (by omega)).2 k3
  obtain ⟨pt8, hpt8⟩ : ∃ pt, mx_rf G (a + 120 + 5 * sn) 6 = pt := ⟨_, rfl⟩
  have tgp8 : mx_tg G pt8 = 12 := by rw [← hpt8]; exact hl9.2.2.2.2.1.1
  refine mx_aload_n (i := 0) (hi := rfl) (hl := rfl) (hd := dX9_restore_18) ?_
  refine mx_getR (ci := 9) (k := 3) (r := (a + 37)) dX9_restore_19 k_299 (by decide) rfl (by assumption) (by assumption) (by omega) ?_
  refine mx_aload_n (i := 0) (hi := rfl) (hl := rfl) (hd := dX9_restore_22) ?_
  refine mx_getR (ci := 9) (k := 6) (r := (a + 119)) dX9_restore_23 k_302 (by decide) rfl (by assumption) (by assumption) (by omega) ?_
  refine mx_iload_n (i := 1) (hi := rfl) (hl := rfl) (hd := dX9_restore_26) ?_
  refine mx_aald (r := (a + 120 + 5 * sn)) sn dX9_restore_27 (by assumption) (by decide) ⟨hs9, by omega, by omega⟩ (hrq _ (by omega)) (by rw [(oSl _ (by omega)).1]; decide) ?_
  refine mx_callV (ci := 6) (As := [.ref (a + 120 + 5 * sn)]) (rest := []) (b1 := 0) (b2 := 0) dX9_restore_28 (ct_copyFrom G I (a + 37) (a + 120 + 5 * sn) pt8 (zK z sn).1 oSt0 (oSl _ (by omega)) hl9.1 (Or.inl (by omega)) hpt8 tgp8) km_X6_copyFrom rfl k_448 k_449 k_450 (by assumption) rfl rfl (Nat.le_of_ble_eq_true rfl) (by decide) (fun _ _ _ q => q.elim) (fun r9 G2 I2 h10 => ?_)
  obtain ⟨e9, e1, m1, m3⟩ := h10
  subst e9; subst e1
  have hP1 := hW0.cp (x := zK z sn) m3 m1 hl9.2.1 (hpt8 ▸ hl9.2.2)
  have hP2 := hP1.1.fg
  have oHi2 := hP1.1.1.1.2.2.2.2.2.2.1.2
  have tg9 : mx_tg (mx_uR G (a + 37) 6 pt8) a = 19 := hP1.1.1.1.1
  have f3 : mx_rf (mx_uR G (a + 37) 6 pt8) a 3 = a + 37 := hP1.1.1.1.2.2.2.2.1.1
  have f5 : mx_rf (mx_uR G (a + 37) 6 pt8) a 5 = a + 47 := hP1.1.1.1.2.2.2.2.2.2.1.1
  have tg3 : mx_tg (mx_uR G (a + 37) 6 pt8) (a + 37) = 16 := tg3
  have tg5 : mx_tg (mx_uR G (a + 37) 6 pt8) (a + 47) = 11 := tg5
  refine mx_aload_n (i := 0) (hi := rfl) (hl := rfl) (hd := dX9_restore_31) ?_
  refine mx_getR (ci := 9) (k := 5) (r := (a + 47)) dX9_restore_32 k_301 (by decide) rfl (by assumption) (by assumption) (by omega) ?_
  refine mx_callVi (ci := 1) (As := []) (rest := []) dX9_restore_35 (ct_forgetAll (mx_uR G (a + 37) 6 pt8) I2 (a + 47) oHi2) km_X1_forgetAll rfl k_699 k_700 k_701 (by assumption) rfl rfl (Nat.le_of_ble_eq_true rfl) (by decide) (fun r11 I3 h12 => ?_)
  obtain ⟨e1, e2⟩ := h12
  subst e1; subst e2
  refine mx_aload_n (i := 0) (hi := rfl) (hl := rfl) (hd := dX9_restore_38) ?_
  refine mx_getR (ci := 9) (k := 3) (r := (a + 37)) dX9_restore_39 k_299 (by decide) rfl (by assumption) (by assumption) (by omega) ?_
  refine mx_getV (ci := 6) (k := 1) (nI (gN (zK z sn).1)) dX9_restore_42 k_170 (by decide) rfl (by assumption) (by rw [mx_u_at, if_neg (by omega)]; exact m1.2.2.1) ?_
  exact mx_iret dX9_restore_45 rfl rfl (⟨by unfold fl_restore; rw [if_neg (fun q => q k1), if_neg (fun q => q (by rw [hsn]; exact k3))], rfl, hP1.tr hP2⟩)
