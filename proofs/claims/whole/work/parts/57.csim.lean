/-! THE METHODS OF StepPaths: simulate -/
/-- the same steps at other costs -/
def cG (v : Gr) (c : Nat → Nat) : Gr := (gP v, gN v, gF v, gK v, gT v, c)
theorem stN.cg {I : mx_I} {o : Nat} {v : Gr} {c c' : Nat → Nat} (h : stN I o (cG v c)) (e : ∀ k, k < gN v → c' k = c k) : stN I o (cG v c') := by
  obtain ⟨⟨w1, w2, w3⟩, h2, h3, h4, h5, h6, h7⟩ := h
  refine ⟨⟨w1, w2, fun s hs => ?_⟩, h2, h3, h4, h5, h6, fun s hs => ?_⟩
  · obtain ⟨a1, a2, a3, a4, a5⟩ := w3 s hs
    have e1 : gC (cG v c') s = gC (cG v c) s := e s hs
    refine ⟨a1, a2, a3, ?_, ?_⟩
    · rw [e1]; exact a4
    · rw [e1]; exact a5
  · exact (h7 s hs).trans (congrArg nI (e s hs).symm)
theorem stN.c1 {I : mx_I} {o s n : Nat} {v : Gr} {c : Nat → Nat} (h : stN I o (cG v c)) (hn : 1 ≤ n ∧ n ≤ 9) : stN (mx_u I (o + 4) s (nI n)) o (cG v (fun k => if k = s then n else c k)) := by
  obtain ⟨⟨w1, w2, w3⟩, h2, h3, h4, h5, h6, h7⟩ := h
  refine ⟨⟨w1, w2, fun k hk => ?_⟩, by rw [mx_u_at, if_neg (by omega)]; exact h2, by rw [mx_u_at, if_neg (by omega)]; exact h3, h4.o (by omega), h5.o (by omega), h6.o (by omega), fun k hk => ?_⟩
  · obtain ⟨a1, a2, a3, a4, a5⟩ := w3 k hk
    have a4 : 1 ≤ c k := a4
    have a5 : c k ≤ 9 := a5
    refine ⟨a1, a2, a3, ?_, ?_⟩
    · show 1 ≤ (if k = s then n else c k)
      split <;> omega
    · show (if k = s then n else c k) ≤ 9
      split <;> omega
  · rw [mx_u_at]
    show _ = nI (if k = s then n else c k)
    by_cases e : k = s
    · rw [if_pos ⟨rfl, e⟩, if_pos e]
    · rw [if_neg (fun q => e q.2), if_neg e]
      exact h7 k hk
/-- the costs of a day that begins with x -/
def dcF (x : Int64) : Nat → Nat := fun k => 1 + lcr (lcN x (k + 1)) % 9
/-- the steps that cannot be gone on it, of those below s -/
def blN (x : Int64) : Nat → Nat
  | 0 => 0
  | s + 1 => blN x s ||| (if lcr (lcN x (s + 1)) / 16 % 8 = 0 then 2 ^ s else 0)
theorem blN_lt (x : Int64) : ∀ n, blN x n < 2 ^ n
  | 0 => Nat.one_pos
  | n + 1 => by
    have h := blN_lt x n
    unfold blN
    refine Nat.or_lt_two_pow (Nat.lt_trans h (Nat.pow_lt_pow_right (by decide) (Nat.lt_succ_self n))) ?_
    split
    · exact Nat.pow_lt_pow_right (by decide) (Nat.lt_succ_self n)
    · exact Nat.two_pow_pos _
def svD (v : Gr) (A : Pa) (x : Int64) : Nat × Option Nat := svP (cG v (dcF x)) A (blN x (gN v)) (gP (cG v (dcF x)))
theorem svD_e (v : Gr) (A : Pa) (x : Int64) : svP (cG v (dcF x)) A (blN x (gN v)) (gP (cG v (dcF x))) = svD v A x := by unfold svD; rfl
def smC (v : Gr) (A : Pa) (seed : Int64) : Nat → Int64 × Nat × Nat
  | 0 => (seed, 0, 0)
  | d + 1 => (lcN (smC v A seed d).1 (gN v), (smC v A seed d).2.1 + (svD v A (smC v A seed d).1).1, (smC v A seed d).2.2 + (svD v A (smC v A seed d).1).2.getD 0)
theorem smC_s {v : Gr} {A : Pa} {seed x : Int64} {d np nc : Nat} (h : smC v A seed d = (x, np, nc)) : smC v A seed (d + 1) = (lcN x (gN v), np + (svD v A x).1, nc + (svD v A x).2.getD 0) := by
  rw [smC, h]
def an_simulate (z : Zs) (seed : Int64) (d : Nat) : Nat := 100000 * (smC (zG z) (vA (zX z)) seed d).2.1 + (smC (zG z) (vA (zX z)) seed d).2.2

set_option maxHeartbeats 1000000 in
set_option maxRecDepth 100000 in
theorem ct_simulate (G : mx_G) (I : mx_I) (a : Nat) (z : Zs) (hW : cW G I a z) (seed : Int64) (dm : Int32) : mx_CT yX9_simulate mX9_simulate 8 1 6 [.ref a, .long seed, .int dm] G I (fun rv Gz Iz => fl_simulate dm = 0 ∧ rv = some (.int (nI (an_simulate z seed dm.toInt.toNat))) ∧ cP G I a z Gz Iz) (fun E Gz Iz => (fl_simulate dm) ≠ 0 ∧ E = exN (fl_simulate dm) ∧ cP G I a z Gz Iz) := by
  refine mx_start (k := 8) (by decide) rfl rfl (fun h => nomatch h) (Nat.le_of_ble_eq_true rfl) ?_
  show mx_V mX9_simulate mx_S0 8 1 6 0 [some (.ref a), some (.long seed), none, some (.int dm), none, none, none, none, none, none, none, none] [] G I (fun rv Gz Iz => fl_simulate dm = 0 ∧ rv = some (.int (nI (an_simulate z seed dm.toInt.toNat))) ∧ cP G I a z Gz Iz) (fun E Gz Iz => (fl_simulate dm) ≠ 0 ∧ E = exN (fl_simulate dm) ∧ cP G I a z Gz Iz)
  have hW0 := hW
  obtain ⟨⟨hSP, hsz, hpe⟩, hTx, hSt, hHi, hSl⟩ := hW
  have oSt : oST G (a + 37) := hSP.2.2.2.2.1.2
  obtain ⟨tg9, ⟨f0, oTx⟩, ⟨f1, oPt⟩, ⟨f2, oRd⟩, ⟨f3, -⟩, ⟨f4, oDr⟩, ⟨f5, oHi⟩, ⟨f6, gSl, lSl, ⟨rq0, oS0⟩, ⟨rq1, oS1⟩⟩, ⟨f7, gFi, lFi⟩, ⟨f8, oSe⟩, ⟨f9, oTr⟩, ⟨f10, oBp⟩⟩ := hSP
  have tg0 : mx_tg G (a + 1) = 17 := oTx.1
  have tg1 : mx_tg G (a + 3) = 12 := oPt.1
  have tg2 : mx_tg G (a + 8) = 13 := oRd.1
  have tg3 : mx_tg G (a + 37) = 16 := oSt.1
  have tg4 : mx_tg G (a + 42) = 16 := oDr.1
  have tg5 : mx_tg G (a + 47) = 11 := oHi.1
  have tg6 : mx_tg G (a + 131) = 15 := oSe.1
  have tg7 : mx_tg G (a + 136) = 15 := oTr.1
  have tg8 : mx_tg G (a + 141) = 10 := oBp.1
  obtain ⟨rT, tT, lT⟩ : mx_rf G (a + 1) 0 = a + 2 ∧ mx_tg G (a + 2) = 2 ∧ mx_ln G (a + 2) = 110 := oTx.2
  have oSt0 : oST G (a + 37) := oSt
  obtain ⟨-, ⟨rF, tF, lF⟩, ⟨rK, tK, lK⟩, ⟨rO, tO, lO⟩, ⟨rC, tC, lC⟩⟩ : mx_tg G (a + 37) = 16 ∧ (mx_rf G (a + 37) 2 = a + 38 ∧ mx_tg G (a + 38) = 1 ∧ mx_ln G (a + 38) = 25) ∧ (mx_rf G (a + 37) 3 = a + 39 ∧ mx_tg G (a + 39) = 1 ∧ mx_ln G (a + 39) = 25) ∧ (mx_rf G (a + 37) 4 = a + 40 ∧ mx_tg G (a + 40) = 1 ∧ mx_ln G (a + 40) = 25) ∧ (mx_rf G (a + 37) 5 = a + 41 ∧ mx_tg G (a + 41) = 1 ∧ mx_ln G (a + 41) = 25) := oSt
  have hSv : stN I (a + 37) (zG z) := hSt.1
  obtain ⟨⟨hP8, hN25, hvb⟩, hs0, hs1, hsF, hsK, hsT, hsC⟩ : stN I (a + 37) (zG z) := hSt.1
  have hN24 : gN (zG z) ≤ 24 := hSt.2.1.1
  have hTx0 := hTx
  obtain ⟨hn110, ht1, htc, htb⟩ : txN I (a + 1) (zN z) (zT z) := hTx
  obtain ⟨pt, hpt⟩ : ∃ pt, mx_rf G (a + 37) 6 = pt := ⟨_, rfl⟩
  have he0 : env G I (a + 37) pt (zG z) (vA (zX z)) := by rw [← hpt]; exact hW0.env
  have hpd : pt = a + 3 ∨ a + 146 ≤ pt := by rw [← hpt]; exact hW0.2.2.1.2.2.1
  have hpd5 : pt + 5 ≤ mx_sz G := by rw [← hpt]; exact hW0.2.2.1.2.2.2.1
  have tgp : mx_tg G pt = 12 := he0.2.1.1
  obtain ⟨rch, tch, lch⟩ : mx_rf G pt 0 = pt + 1 ∧ mx_tg G (pt + 1) = 2 ∧ mx_ln G (pt + 1) = 40 := he0.2.1.2.1
  have hpn : ptN I pt (vA (zX z)) := he0.2.2.2.2
  have hwfp : wfP (vA (zX z)) := hpn.1
  have hwfg : wfG (zG z) := he0.2.2.2.1.1
  have hn40 : (zX z).2.1 ≤ 40 := hSt.2.1.2.1
  have hpz : I pt 1 = nI (zX z).2.1 := by
    rw [hpn.2.1, show pSz (vA (zX z)) = min (zX z).2.1 40 from (rdF_sz _ _).1, Nat.min_eq_left hn40]
  have hpl : I pt 2 = nI (pL (vA (zX z))) := hpn.2.2.1
  have hpc : ∀ i, i < (zX z).2.1 → I (pt + 1) i = nI ((zX z).2.2 i) := fun i hi => by
    have h := hpn.2.2.2.2.1 i (by rw [show pSz (vA (zX z)) = min (zX z).2.1 40 from (rdF_sz _ _).1, Nat.min_eq_left hn40]; exact hi)
    rw [h, show pCh (vA (zX z)) = (zX z).2.2 from (rdF_sz _ _).2]
  have hpc8 : ∀ i, i < (zX z).2.1 → (zX z).2.2 i < 256 := hSt.2.1.2.2.2
  have J16 : ∀ (_ : Unit), mx_V mX9_simulate mx_S0 8 1 6 16 [some (.ref a), some (.long seed), none, some (.int dm), none, none, none, none, none, none, none, none] [.int (mx_b (decide (1 ≤ dm.toInt ∧ dm.toInt ≤ 20)))] G I (fun rv Gz Iz => fl_simulate dm = 0 ∧ rv = some (.int (nI (an_simulate z seed dm.toInt.toNat))) ∧ cP G I a z Gz Iz) (fun E Gz Iz => (fl_simulate dm) ≠ 0 ∧ E = exN (fl_simulate dm) ∧ cP G I a z Gz Iz) := by
    intro _ 
    refine mx_iconstN 2 dX9_simulate_16 (by decide) ?_
    refine mx_callS (As := [.int (mx_b (decide (1 ≤ dm.toInt ∧ dm.toInt ≤ 20))), .int (nI 2)]) (rest := []) (b1 := 1) (b2 := 6) dX9_simulate_17 (ct_require G I (1 ≤ dm.toInt ∧ dm.toInt ≤ 20) 2 (by decide)) km_X9_require rfl k_412 k_413 rfl rfl (Nat.le_of_ble_eq_true rfl) (by decide) (fun E G9 I9 h9 => mx_xo rfl (by have hf : fl_simulate dm = 2 := (by unfold fl_simulate; rw [if_pos h9.1]); show (fl_simulate dm) ≠ 0 ∧ E = exN (fl_simulate dm) ∧ cP G I a z G9 I9; rw [hf]; exact ⟨by decide, hW0.id.thw h9.2.2⟩)) (fun r1 G3 I2 h4 => ?_)
    obtain ⟨e0, e1, e2, e3⟩ := h4
    have e2 := e2.symm
    subst e1; subst e2; subst e3
    have k2 : 1 ≤ dm.toInt ∧ dm.toInt ≤ 20 := e0.resolve_right (by decide)
    clear e0
    have hdne : dm = nI dm.toInt.toNat := (mx_nn (by omega)).symm
    have hdnb : 1 ≤ dm.toInt.toNat ∧ dm.toInt.toNat ≤ 20 := by omega
    have hdn31 : dm.toInt.toNat < 2 ^ 31 := tn31 _
    generalize dm.toInt.toNat = dn at hdne hdnb hdn31 ⊢
    subst hdne
    refine mx_aload_n (i := 0) (hi := rfl) (hl := rfl) (hd := dX9_simulate_20) ?_
    refine mx_getR (ci := 9) (k := 4) (r := (a + 42)) dX9_simulate_21 k_329 (by decide) rfl (by assumption) (by assumption) (by omega) ?_
    refine mx_aload_n (i := 0) (hi := rfl) (hl := rfl) (hd := dX9_simulate_24) ?_
    refine mx_getR (ci := 9) (k := 3) (r := (a + 37)) dX9_simulate_25 k_328 (by decide) rfl (by assumption) (by assumption) (by omega) ?_
    refine mx_callV (ci := 6) (As := [.ref (a + 37)]) (rest := []) (b1 := 0) (b2 := 0) dX9_simulate_28 (ct_copyFrom G I (a + 42) (a + 37) pt _ oDr oSt0 hSv (Or.inr (by omega)) hpt tgp) km_X6_copyFrom rfl k_525 k_526 k_527 (by assumption) rfl rfl (Nat.le_of_ble_eq_true rfl) (by decide) (fun _ _ _ q => q.elim) (fun r5 G3 I3 h6 => ?_)
    obtain ⟨e9, e1, n1, n2⟩ := h6
    subst e9
    have hP3 : cP G I a z G3 I3 ∧ mx_rf G3 (a + 42) 6 = mx_rf G3 (a + 37) 6 := by rw [e1]; exact hW0.dc hpt n2
    obtain ⟨hP3, hrd⟩ := hP3
    have hD3 : stN I3 (a + 42) (cG (zG z) (gC (zG z))) := n1
    clear e1 n1 n2 hSl hpt he0 tgp hpd5 rch tch lch hpn hpz hpl hpc
    obtain ⟨⟨hSP, hsz, hpe⟩, hTx, hSt, hHi, hSl⟩ := hP3.1
    have oSt : oST G3 (a + 37) := hSP.2.2.2.2.1.2
    obtain ⟨tg9, ⟨f0, oTx⟩, ⟨f1, oPt⟩, ⟨f2, oRd⟩, ⟨f3, -⟩, ⟨f4, oDr⟩, ⟨f5, oHi⟩, ⟨f6, gSl, lSl, ⟨rq0, oS0⟩, ⟨rq1, oS1⟩⟩, ⟨f7, gFi, lFi⟩, ⟨f8, oSe⟩, ⟨f9, oTr⟩, ⟨f10, oBp⟩⟩ := hSP
    have tg0 : mx_tg G3 (a + 1) = 17 := oTx.1
    have tg1 : mx_tg G3 (a + 3) = 12 := oPt.1
    have tg2 : mx_tg G3 (a + 8) = 13 := oRd.1
    have tg3 : mx_tg G3 (a + 37) = 16 := oSt.1
    have tg4 : mx_tg G3 (a + 42) = 16 := oDr.1
    have tg5 : mx_tg G3 (a + 47) = 11 := oHi.1
    have tg6 : mx_tg G3 (a + 131) = 15 := oSe.1
    have tg7 : mx_tg G3 (a + 136) = 15 := oTr.1
    have tg8 : mx_tg G3 (a + 141) = 10 := oBp.1
    obtain ⟨rT, tT, lT⟩ : mx_rf G3 (a + 1) 0 = a + 2 ∧ mx_tg G3 (a + 2) = 2 ∧ mx_ln G3 (a + 2) = 110 := oTx.2
    have oSt0 : oST G3 (a + 37) := oSt
    obtain ⟨-, ⟨rF, tF, lF⟩, ⟨rK, tK, lK⟩, ⟨rO, tO, lO⟩, ⟨rC, tC, lC⟩⟩ : mx_tg G3 (a + 37) = 16 ∧ (mx_rf G3 (a + 37) 2 = a + 38 ∧ mx_tg G3 (a + 38) = 1 ∧ mx_ln G3 (a + 38) = 25) ∧ (mx_rf G3 (a + 37) 3 = a + 39 ∧ mx_tg G3 (a + 39) = 1 ∧ mx_ln G3 (a + 39) = 25) ∧ (mx_rf G3 (a + 37) 4 = a + 40 ∧ mx_tg G3 (a + 40) = 1 ∧ mx_ln G3 (a + 40) = 25) ∧ (mx_rf G3 (a + 37) 5 = a + 41 ∧ mx_tg G3 (a + 41) = 1 ∧ mx_ln G3 (a + 41) = 25) := oSt
    have hSv : stN I3 (a + 37) (zG z) := hSt.1
    obtain ⟨⟨hP8, hN25, hvb⟩, hs0, hs1, hsF, hsK, hsT, hsC⟩ : stN I3 (a + 37) (zG z) := hSt.1
    have hN24 : gN (zG z) ≤ 24 := hSt.2.1.1
    have hTx0 := hTx
    obtain ⟨hn110, ht1, htc, htb⟩ : txN I3 (a + 1) (zN z) (zT z) := hTx
    obtain ⟨pt, hpt⟩ : ∃ pt, mx_rf G3 (a + 37) 6 = pt := ⟨_, rfl⟩
    have he0 : env G3 I3 (a + 37) pt (zG z) (vA (zX z)) := by rw [← hpt]; exact hP3.1.env
    have hpd : pt = a + 3 ∨ a + 146 ≤ pt := by rw [← hpt]; exact hP3.1.2.2.1.2.2.1
    have hpd5 : pt + 5 ≤ mx_sz G3 := by rw [← hpt]; exact hP3.1.2.2.1.2.2.2.1
    have tgp : mx_tg G3 pt = 12 := he0.2.1.1
    obtain ⟨rch, tch, lch⟩ : mx_rf G3 pt 0 = pt + 1 ∧ mx_tg G3 (pt + 1) = 2 ∧ mx_ln G3 (pt + 1) = 40 := he0.2.1.2.1
    have hpn : ptN I3 pt (vA (zX z)) := he0.2.2.2.2
    have hwfp : wfP (vA (zX z)) := hpn.1
    have hwfg : wfG (zG z) := he0.2.2.2.1.1
    have hn40 : (zX z).2.1 ≤ 40 := hSt.2.1.2.1
    have hpz : I3 pt 1 = nI (zX z).2.1 := by
      rw [hpn.2.1, show pSz (vA (zX z)) = min (zX z).2.1 40 from (rdF_sz _ _).1, Nat.min_eq_left hn40]
    have hpl : I3 pt 2 = nI (pL (vA (zX z))) := hpn.2.2.1
    have hpc : ∀ i, i < (zX z).2.1 → I3 (pt + 1) i = nI ((zX z).2.2 i) := fun i hi => by
      have h := hpn.2.2.2.2.1 i (by rw [show pSz (vA (zX z)) = min (zX z).2.1 40 from (rdF_sz _ _).1, Nat.min_eq_left hn40]; exact hi)
      rw [h, show pCh (vA (zX z)) = (zX z).2.2 from (rdF_sz _ _).2]
    have hpc8 : ∀ i, i < (zX z).2.1 → (zX z).2.2 i < 256 := hSt.2.1.2.2.2
    have tg42 : mx_tg G3 (a + 42) = 16 := oDr.1
    have rDC : mx_rf G3 (a + 42) 5 = a + 46 := oDr.2.2.2.2.1
    have tDC : mx_tg G3 (a + 46) = 1 := oDr.2.2.2.2.2.1
    have lDC : mx_ln G3 (a + 46) = 25 := oDr.2.2.2.2.2.2
    have L43 : ∀ (fq : Nat) (d : Nat) (x0 : Int64) (np nc : Nat) (c4 : Nat → Nat) (I4 : mx_I), dn - d < fq → (d ≤ dn) → ((smC (zG z) (vA (zX z)) seed d) = (x0, np, nc)) → (stN I4 (a + 42) (cG (zG z) c4)) → (dfr a I3 I4) → mx_V mX9_simulate mx_S0 8 0 0 43 [some (.ref a), some (.long seed), none, some (.int (nI dn)), some (.long x0), none, some (.int (nI np)), some (.int (nI nc)), some (.int (nI d)), none, none, none] [] G3 I4 (fun rv Gz Iz => fl_simulate (nI dn) = 0 ∧ rv = some (.int (nI (an_simulate z seed dn))) ∧ cP G I a z Gz Iz) (fun E Gz Iz => (fl_simulate (nI dn)) ≠ 0 ∧ E = exN (fl_simulate (nI dn)) ∧ cP G I a z Gz Iz) := by
      intro fq
      induction fq with
      | zero => intro d x0 np nc c4 I4 hfu; exact absurd hfu (Nat.not_lt_zero _)
      | succ fq ih =>
        intro d x0 np nc c4 I4 hfu hd hx hD4 hf4
        have L55 : ∀ (fq : Nat) (s : Nat) (c5 : Nat → Nat) (I5 : mx_I), gN (zG z) - s < fq → (d < dn) → (s ≤ gN (zG z)) → (stN I5 (a + 42) (cG (zG z) c5)) → (∀ k, k < s → c5 k = dcF x0 k) → (dfr a I3 I5) → mx_V mX9_simulate mx_S0 8 0 0 55 [some (.ref a), some (.long seed), none, some (.int (nI dn)), some (.long (lcN x0 s)), none, some (.int (nI np)), some (.int (nI nc)), some (.int (nI d)), some (.int (nI (blN x0 s))), some (.int (nI s)), none] [] G3 I5 (fun rv Gz Iz => fl_simulate (nI dn) = 0 ∧ rv = some (.int (nI (an_simulate z seed dn))) ∧ cP G I a z Gz Iz) (fun E Gz Iz => (fl_simulate (nI dn)) ≠ 0 ∧ E = exN (fl_simulate (nI dn)) ∧ cP G I a z Gz Iz) := by
          intro fq
          induction fq with
          | zero => intro s c5 I5 hfu; exact absurd hfu (Nat.not_lt_zero _)
          | succ fq ih2 =>
            intro s c5 I5 hfu hd8 hs9 hD5 hc5 hf5
            obtain ⟨r, hr⟩ : ∃ r, lcr (lcN x0 (s + 1)) = r := ⟨_, rfl⟩
            have hr31 : r < 2 ^ 31 := by rw [← hr]; exact lcr_lt _
            have hN5 : I5 (a + 42) 1 = nI (gN (zG z)) := hD5.2.2.1
            refine mx_iload (i := 10) (hl := rfl) (hd := dX9_simulate_55) ?_
            refine mx_aload_n (i := 0) (hi := rfl) (hl := rfl) (hd := dX9_simulate_57) ?_
            refine mx_getR (ci := 9) (k := 4) (r := (a + 42)) dX9_simulate_58 k_329 (by decide) rfl (by assumption) (by assumption) (by omega) ?_
            refine mx_getV (ci := 6) (k := 1) (nI (gN (zG z))) dX9_simulate_61 k_199 (by decide) rfl (by assumption) hN5 ?_
            refine mx_cmpN_ge 130 dX9_simulate_64 (by decide) (by omega) (by omega) (fun c64 => ?_) (fun c64 => ?_)
            · skip
              obtain rfl : s = gN (zG z) := by omega
              have hD6 : stN I5 (a + 42) (cG (zG z) (dcF x0)) := hD5.cg (fun k hk => (hc5 k hk).symm)
              have hW5 := (hP3.1.d hf5).1
              have heD : env G3 I5 (a + 42) pt (cG (zG z) (dcF x0)) (vA (zX z)) := by rw [← hpt]; exact denvW hW5 hrd hD6
              have hbl31 : blN x0 (gN (zG z)) < 2 ^ 31 := Nat.lt_of_lt_of_le (blN_lt _ _) (Nat.pow_le_pow_right (by decide) (by omega))
              refine mx_aload_n (i := 0) (hi := rfl) (hl := rfl) (hd := dX9_simulate_130) ?_
              refine mx_getR (ci := 9) (k := 8) (r := (a + 131)) dX9_simulate_131 k_333 (by decide) rfl (by assumption) (by assumption) (by omega) ?_
              refine mx_aload_n (i := 0) (hi := rfl) (hl := rfl) (hd := dX9_simulate_134) ?_
              refine mx_getR (ci := 9) (k := 4) (r := (a + 42)) dX9_simulate_135 k_329 (by decide) rfl (by assumption) (by assumption) (by omega) ?_
              refine mx_iload (i := 9) (hl := rfl) (hd := dX9_simulate_138) ?_
              refine mx_callVi (ci := 5) (As := [.ref (a + 42), .int (nI (blN x0 (gN (zG z))))]) (rest := []) dX9_simulate_140 (ct_survey G3 I5 (a + 131) oSe (a + 42) pt _ _ heD (by omega) (pd_o hpd (by decide)) (blN x0 (gN (zG z))) hbl31) km_X5_survey rfl k_544 k_545 k_546 (by assumption) rfl rfl (Nat.le_of_ble_eq_true rfl) (by decide) (fun r7 I6 h8 => ?_)
              obtain ⟨e9, m1, m2, m3⟩ := h8
              subst e9
              rw [svD_e] at m1 m2
              have hlt6 : ∀ y, (svD (zG z) (vA (zX z)) x0).2 = some y → y < 2 ^ 31 := by rw [← svD_e]; exact svP_lt hwfp _
              have hD7 : stN I6 (a + 42) (cG (zG z) (dcF x0)) := hD6.m m3 (by omega)
              have hf6 := hf5.tr (dfr.of m3 (by omega))
              refine mx_iload (i := 6) (hl := rfl) (hd := dX9_simulate_143) ?_
              refine mx_aload_n (i := 0) (hi := rfl) (hl := rfl) (hd := dX9_simulate_145) ?_
              refine mx_getR (ci := 9) (k := 8) (r := (a + 131)) dX9_simulate_146 k_333 (by decide) rfl (by assumption) (by assumption) (by omega) ?_
              refine mx_getV (ci := 5) (k := 1) (nI ((svD (zG z) (vA (zX z)) x0).1)) dX9_simulate_149 k_278 (by decide) rfl (by assumption) m1 ?_
              refine mx_iaddN dX9_simulate_152 ?_
              refine mx_istoreE (i := 6) (ls' := [some (.ref a), some (.long seed), none, some (.int (nI dn)), some (.long (lcN x0 (gN (zG z)))), none, some (.int (nI (np + ((svD (zG z) (vA (zX z)) x0).1)))), some (.int (nI nc)), some (.int (nI d)), some (.int (nI (blN x0 (gN (zG z))))), some (.int (nI (gN (zG z)))), none]) (hd := dX9_simulate_153) (hn := by decide) (hok := rfl) (hls := rfl) ?_
              refine mx_iload (i := 7) (hl := rfl) (hd := dX9_simulate_155) ?_
              refine mx_aload_n (i := 0) (hi := rfl) (hl := rfl) (hd := dX9_simulate_157) ?_
              refine mx_getR (ci := 9) (k := 8) (r := (a + 131)) dX9_simulate_158 k_333 (by decide) rfl (by assumption) (by assumption) (by omega) ?_
              refine mx_getV (ci := 5) (k := 2) (oI (svD (zG z) (vA (zX z)) x0).2 : Int32) dX9_simulate_161 k_280 (by decide) rfl (by assumption) m2 ?_
              refine mx_bipush (v := (-9)) (by decide) dX9_simulate_164 ?_
              refine mx_icmp_ne (tgt := 173) dX9_simulate_166 (by decide) (fun c166 => ?_) (fun c166 => ?_)
              · skip
                refine mx_aload_n (i := 0) (hi := rfl) (hl := rfl) (hd := dX9_simulate_173) ?_
                refine mx_getR (ci := 9) (k := 8) (r := (a + 131)) dX9_simulate_174 k_333 (by decide) rfl (by assumption) (by assumption) (by omega) ?_
                refine mx_getV (ci := 5) (k := 2) (oI (svD (zG z) (vA (zX z)) x0).2 : Int32) dX9_simulate_177 k_280 (by decide) rfl (by assumption) m2 ?_
                refine mx_top (y := nI ((svD (zG z) (vA (zX z)) x0).2.getD 0)) (oI_gd c166) ?_
                refine mx_iaddN dX9_simulate_180 ?_
                refine mx_istoreE (i := 7) (ls' := [some (.ref a), some (.long seed), none, some (.int (nI dn)), some (.long (lcN x0 (gN (zG z)))), none, some (.int (nI (np + ((svD (zG z) (vA (zX z)) x0).1)))), some (.int (nI (nc + ((svD (zG z) (vA (zX z)) x0).2.getD 0)))), some (.int (nI d)), some (.int (nI (blN x0 (gN (zG z))))), some (.int (nI (gN (zG z)))), none]) (hd := dX9_simulate_181) (hn := by decide) (hok := rfl) (hls := rfl) ?_
                refine mx_iincE (i := 8) (ls' := [some (.ref a), some (.long seed), none, some (.int (nI dn)), some (.long (lcN x0 (gN (zG z)))), none, some (.int (nI (np + ((svD (zG z) (vA (zX z)) x0).1)))), some (.int (nI (nc + ((svD (zG z) (vA (zX z)) x0).2.getD 0)))), some (.int (nI (d + 1))), some (.int (nI (blN x0 (gN (zG z))))), some (.int (nI (gN (zG z)))), none]) 1 dX9_simulate_183 rfl (by decide) (by decide) rfl rfl ?_
                refine mx_goto (tgt := 43) dX9_simulate_186 (by decide) ?_
                refine mx_leS (ls' := [some (.ref a), some (.long seed), none, some (.int (nI dn)), some (.long (lcN x0 (gN (zG z)))), none, some (.int (nI (np + ((svD (zG z) (vA (zX z)) x0).1)))), some (.int (nI (nc + ((svD (zG z) (vA (zX z)) x0).2.getD 0)))), some (.int (nI (d + 1))), none, none, none]) ⟨rfl, rfl, rfl, rfl, rfl, rfl, rfl, trivial⟩ ?_
                exact ih (d + 1) _ _ _ _ _ (by omega) (by omega) (smC_s hx) hD7 hf6
              · skip
                refine mx_iconstN 0 dX9_simulate_169 (by decide) ?_
                refine mx_goto (tgt := 180) dX9_simulate_170 (by decide) ?_
                refine mx_top (y := nI ((svD (zG z) (vA (zX z)) x0).2.getD 0)) (by rw [(oI_iff hlt6).mp c166]; rfl) ?_
                refine mx_iaddN dX9_simulate_180 ?_
                refine mx_istoreE (i := 7) (ls' := [some (.ref a), some (.long seed), none, some (.int (nI dn)), some (.long (lcN x0 (gN (zG z)))), none, some (.int (nI (np + ((svD (zG z) (vA (zX z)) x0).1)))), some (.int (nI (nc + ((svD (zG z) (vA (zX z)) x0).2.getD 0)))), some (.int (nI d)), some (.int (nI (blN x0 (gN (zG z))))), some (.int (nI (gN (zG z)))), none]) (hd := dX9_simulate_181) (hn := by decide) (hok := rfl) (hls := rfl) ?_
                refine mx_iincE (i := 8) (ls' := [some (.ref a), some (.long seed), none, some (.int (nI dn)), some (.long (lcN x0 (gN (zG z)))), none, some (.int (nI (np + ((svD (zG z) (vA (zX z)) x0).1)))), some (.int (nI (nc + ((svD (zG z) (vA (zX z)) x0).2.getD 0)))), some (.int (nI (d + 1))), some (.int (nI (blN x0 (gN (zG z))))), some (.int (nI (gN (zG z)))), none]) 1 dX9_simulate_183 rfl (by decide) (by decide) rfl rfl ?_
                refine mx_goto (tgt := 43) dX9_simulate_186 (by decide) ?_
                refine mx_leS (ls' := [some (.ref a), some (.long seed), none, some (.int (nI dn)), some (.long (lcN x0 (gN (zG z)))), none, some (.int (nI (np + ((svD (zG z) (vA (zX z)) x0).1)))), some (.int (nI (nc + ((svD (zG z) (vA (zX z)) x0).2.getD 0)))), some (.int (nI (d + 1))), none, none, none]) ⟨rfl, rfl, rfl, rfl, rfl, rfl, rfl, trivial⟩ ?_
                exact ih (d + 1) _ _ _ _ _ (by omega) (by omega) (smC_s hx) hD7 hf6
            · skip
              refine mx_lload (i := 4) (hl := rfl) (hd := dX9_simulate_67) ?_
              refine mx_ldc2 (v := (6364136223846793005)) k_987 dX9_simulate_69 ?_
              refine mx_lmul dX9_simulate_72 ?_
              refine mx_ldc2 (v := (1442695040888963407)) k_988 dX9_simulate_73 ?_
              refine mx_ladd dX9_simulate_76 ?_
              refine mx_topl (y := lcN x0 (s + 1)) (rfl) ?_
              refine mx_lstoreE (i := 4) (ls' := [some (.ref a), some (.long seed), none, some (.int (nI dn)), some (.long (lcN x0 (s + 1))), none, some (.int (nI np)), some (.int (nI nc)), some (.int (nI d)), some (.int (nI (blN x0 s))), some (.int (nI s)), none]) (hd := dX9_simulate_77) (hn := by decide) (hok := rfl) (hls := rfl) ?_
              refine mx_lload (i := 4) (hl := rfl) (hd := dX9_simulate_79) ?_
              refine mx_bipushN 33 dX9_simulate_81 (by decide) ?_
              refine mx_lushr (hv := rfl) (hd := dX9_simulate_83) ?_
              refine mx_l2i (hv := rfl) (hd := dX9_simulate_84) ?_
              refine mx_top (y := nI r) ((lcr_i _).trans (congrArg nI hr)) ?_
              refine mx_istoreE (i := 11) (ls' := [some (.ref a), some (.long seed), none, some (.int (nI dn)), some (.long (lcN x0 (s + 1))), none, some (.int (nI np)), some (.int (nI nc)), some (.int (nI d)), some (.int (nI (blN x0 s))), some (.int (nI s)), some (.int (nI r))]) (hd := dX9_simulate_85) (hn := by decide) (hok := rfl) (hls := rfl) ?_
              refine mx_aload_n (i := 0) (hi := rfl) (hl := rfl) (hd := dX9_simulate_87) ?_
              refine mx_getR (ci := 9) (k := 4) (r := (a + 42)) dX9_simulate_88 k_329 (by decide) rfl (by assumption) (by assumption) (by omega) ?_
              refine mx_getR (ci := 6) (k := 5) (r := (a + 46)) dX9_simulate_91 k_217 (by decide) rfl (by assumption) (by assumption) (by omega) ?_
              refine mx_iload (i := 10) (hl := rfl) (hd := dX9_simulate_94) ?_
              refine mx_iconstN 1 dX9_simulate_96 (by decide) ?_
              refine mx_iload (i := 11) (hl := rfl) (hd := dX9_simulate_97) ?_
              refine mx_bipushN 9 dX9_simulate_99 (by decide) ?_
              refine mx_iremN dX9_simulate_101 (by omega) (by decide) ?_
              refine mx_iaddN dX9_simulate_102 ?_
              refine mx_iast s dX9_simulate_103 (by assumption) ⟨rfl, by rw [lDC]; omega, by rw [lDC]; decide⟩ ?_
              refine mx_iload (i := 11) (hl := rfl) (hd := dX9_simulate_104) ?_
              refine mx_bipushN 16 dX9_simulate_106 (by decide) ?_
              refine mx_idivN dX9_simulate_108 (by omega) (by decide) ?_
              refine mx_bipushN 8 dX9_simulate_109 (by decide) ?_
              refine mx_iremN dX9_simulate_111 (by omega) (by decide) ?_
              refine mx_ifN_ne 124 dX9_simulate_112 (by decide) (by omega) (fun c112 => ?_) (fun c112 => ?_)
              · skip
                
                rw [show blN x0 s = blN x0 (s + 1) from (show _ = blN x0 s ||| (if lcr (lcN x0 (s + 1)) / 16 % 8 = 0 then 2 ^ s else 0) by rw [hr, if_neg c112, Nat.or_zero])]
                refine mx_iincE (i := 10) (ls' := [some (.ref a), some (.long seed), none, some (.int (nI dn)), some (.long (lcN x0 (s + 1))), none, some (.int (nI np)), some (.int (nI nc)), some (.int (nI d)), some (.int (nI (blN x0 (s + 1)))), some (.int (nI (s + 1))), some (.int (nI r))]) 1 dX9_simulate_124 rfl (by decide) (by decide) rfl rfl ?_
                refine mx_goto (tgt := 55) dX9_simulate_127 (by decide) ?_
                refine mx_leS (ls' := [some (.ref a), some (.long seed), none, some (.int (nI dn)), some (.long (lcN x0 (s + 1))), none, some (.int (nI np)), some (.int (nI nc)), some (.int (nI d)), some (.int (nI (blN x0 (s + 1)))), some (.int (nI (s + 1))), none]) ⟨rfl, rfl, rfl, rfl, rfl, rfl, rfl, rfl, rfl, trivial⟩ ?_
                exact ih2 (s + 1) _ _ (by omega) hd8 (by omega) (hD5.c1 (by omega)) (fun k hk => by show (if k = s then 1 + r % 9 else c5 k) = dcF x0 k; by_cases e9 : k = s; (rw [if_pos e9, e9]; show 1 + r % 9 = 1 + lcr (lcN x0 (s + 1)) % 9; rw [hr]); (rw [if_neg e9]; exact hc5 k (by omega))) (hf5.tr (dfr.of ((mx_fr.rf I5 (a + 46) (a + 47)).u (by omega)) (by omega)))
              · skip
                
                refine mx_iload (i := 9) (hl := rfl) (hd := dX9_simulate_115) ?_
                refine mx_iconstN 1 dX9_simulate_117 (by decide) ?_
                refine mx_iload (i := 10) (hl := rfl) (hd := dX9_simulate_118) ?_
                refine mx_ishl1N dX9_simulate_120 (by omega) ?_
                refine mx_iorN dX9_simulate_121 ?_
                refine mx_istoreE (i := 9) (ls' := [some (.ref a), some (.long seed), none, some (.int (nI dn)), some (.long (lcN x0 (s + 1))), none, some (.int (nI np)), some (.int (nI nc)), some (.int (nI d)), some (.int (nI ((blN x0 s) ||| (2 ^ s)))), some (.int (nI s)), some (.int (nI r))]) (hd := dX9_simulate_122) (hn := by decide) (hok := rfl) (hls := rfl) ?_
                rw [show blN x0 s ||| 2 ^ s = blN x0 (s + 1) from (show _ = blN x0 s ||| (if lcr (lcN x0 (s + 1)) / 16 % 8 = 0 then 2 ^ s else 0) by rw [hr, if_pos c112])]
                refine mx_iincE (i := 10) (ls' := [some (.ref a), some (.long seed), none, some (.int (nI dn)), some (.long (lcN x0 (s + 1))), none, some (.int (nI np)), some (.int (nI nc)), some (.int (nI d)), some (.int (nI (blN x0 (s + 1)))), some (.int (nI (s + 1))), some (.int (nI r))]) 1 dX9_simulate_124 rfl (by decide) (by decide) rfl rfl ?_
                refine mx_goto (tgt := 55) dX9_simulate_127 (by decide) ?_
                refine mx_leS (ls' := [some (.ref a), some (.long seed), none, some (.int (nI dn)), some (.long (lcN x0 (s + 1))), none, some (.int (nI np)), some (.int (nI nc)), some (.int (nI d)), some (.int (nI (blN x0 (s + 1)))), some (.int (nI (s + 1))), none]) ⟨rfl, rfl, rfl, rfl, rfl, rfl, rfl, rfl, rfl, trivial⟩ ?_
                exact ih2 (s + 1) _ _ (by omega) hd8 (by omega) (hD5.c1 (by omega)) (fun k hk => by show (if k = s then 1 + r % 9 else c5 k) = dcF x0 k; by_cases e9 : k = s; (rw [if_pos e9, e9]; show 1 + r % 9 = 1 + lcr (lcN x0 (s + 1)) % 9; rw [hr]); (rw [if_neg e9]; exact hc5 k (by omega))) (hf5.tr (dfr.of ((mx_fr.rf I5 (a + 46) (a + 47)).u (by omega)) (by omega)))
        refine mx_iload (i := 8) (hl := rfl) (hd := dX9_simulate_43) ?_
        refine mx_iload_n (i := 3) (hi := rfl) (hl := rfl) (hd := dX9_simulate_45) ?_
        refine mx_cmpN_ge 189 dX9_simulate_46 (by decide) (by omega) (by omega) (fun c46 => ?_) (fun c46 => ?_)
        · skip
          refine mx_ldcw (v := (100000)) k_989 dX9_simulate_189 ?_
          refine mx_top (y := nI 100000) (by decide) ?_
          refine mx_iload (i := 6) (hl := rfl) (hd := dX9_simulate_192) ?_
          refine mx_imulN dX9_simulate_194 ?_
          refine mx_iload (i := 7) (hl := rfl) (hd := dX9_simulate_195) ?_
          refine mx_iaddN dX9_simulate_197 ?_
          exact mx_iret dX9_simulate_198 rfl rfl (⟨by unfold fl_simulate; rw [if_neg (fun q => q k2)], congrArg (fun x => some (Value.int (nI x))) (show _ = an_simulate z seed dn by unfold an_simulate; rw [show dn = d by omega, hx]), hP3.up hf4⟩)
        · skip
          refine mx_iconstN 0 dX9_simulate_49 (by decide) ?_
          refine mx_istoreE (i := 9) (ls' := [some (.ref a), some (.long seed), none, some (.int (nI dn)), some (.long x0), none, some (.int (nI np)), some (.int (nI nc)), some (.int (nI d)), some (.int (nI 0)), none, none]) (hd := dX9_simulate_50) (hn := by decide) (hok := rfl) (hls := rfl) ?_
          refine mx_iconstN 0 dX9_simulate_52 (by decide) ?_
          refine mx_istoreE (i := 10) (ls' := [some (.ref a), some (.long seed), none, some (.int (nI dn)), some (.long x0), none, some (.int (nI np)), some (.int (nI nc)), some (.int (nI d)), some (.int (nI 0)), some (.int (nI 0)), none]) (hd := dX9_simulate_53) (hn := by decide) (hok := rfl) (hls := rfl) ?_
          exact L55 _ 0 _ _ (Nat.lt_succ_self _) (by omega) (Nat.zero_le _) hD4 (fun k hk => absurd hk (Nat.not_lt_zero k)) hf4
    refine mx_lload_n (i := 1) (hi := rfl) (hl := rfl) (hd := dX9_simulate_31) ?_
    refine mx_lstoreE (i := 4) (ls' := [some (.ref a), some (.long seed), none, some (.int (nI dn)), some (.long seed), none, none, none, none, none, none, none]) (hd := dX9_simulate_32) (hn := by decide) (hok := rfl) (hls := rfl) ?_
    refine mx_iconstN 0 dX9_simulate_34 (by decide) ?_
    refine mx_istoreE (i := 6) (ls' := [some (.ref a), some (.long seed), none, some (.int (nI dn)), some (.long seed), none, some (.int (nI 0)), none, none, none, none, none]) (hd := dX9_simulate_35) (hn := by decide) (hok := rfl) (hls := rfl) ?_
    refine mx_iconstN 0 dX9_simulate_37 (by decide) ?_
    refine mx_istoreE (i := 7) (ls' := [some (.ref a), some (.long seed), none, some (.int (nI dn)), some (.long seed), none, some (.int (nI 0)), some (.int (nI 0)), none, none, none, none]) (hd := dX9_simulate_38) (hn := by decide) (hok := rfl) (hls := rfl) ?_
    refine mx_iconstN 0 dX9_simulate_40 (by decide) ?_
    refine mx_istoreE (i := 8) (ls' := [some (.ref a), some (.long seed), none, some (.int (nI dn)), some (.long seed), none, some (.int (nI 0)), some (.int (nI 0)), some (.int (nI 0)), none, none, none]) (hd := dX9_simulate_41) (hn := by decide) (hok := rfl) (hls := rfl) ?_
    exact L43 _ 0 seed 0 0 _ _ (Nat.lt_succ_self _) (Nat.zero_le _) rfl hD3 (dfr.rf a I3)
  refine mx_iload_n (i := 3) (hi := rfl) (hl := rfl) (hd := dX9_simulate_0) ?_
  refine mx_iconstN 1 dX9_simulate_1 (by decide) ?_
  refine mx_cmpRN_lt 15 dX9_simulate_2 (by decide) (by omega) (fun c2 => ?_) (fun c2 => ?_)
  · skip
    refine mx_iconstN 0 dX9_simulate_15 (by decide) ?_
    refine mx_top (y := mx_b (decide (1 ≤ dm.toInt ∧ dm.toInt ≤ 20))) (mx_bF (by omega)) ?_
    exact J16 () 
  · skip
    refine mx_iload_n (i := 3) (hi := rfl) (hl := rfl) (hd := dX9_simulate_5) ?_
    refine mx_bipushN 20 dX9_simulate_6 (by decide) ?_
    refine mx_cmpRN_gt 15 dX9_simulate_8 (by decide) (by omega) (fun c8 => ?_) (fun c8 => ?_)
    · skip
      refine mx_iconstN 0 dX9_simulate_15 (by decide) ?_
      refine mx_top (y := mx_b (decide (1 ≤ dm.toInt ∧ dm.toInt ≤ 20))) (mx_bF (by omega)) ?_
      exact J16 () 
    · skip
      refine mx_iconstN 1 dX9_simulate_11 (by decide) ?_
      refine mx_goto (tgt := 16) dX9_simulate_12 (by decide) ?_
      refine mx_top (y := mx_b (decide (1 ≤ dm.toInt ∧ dm.toInt ≤ 20))) (mx_bT (by omega)) ?_
      exact J16 () 
