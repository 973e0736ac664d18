/-! THE METHODS OF StepPaths: bestNew -/
theorem seR_lt {rc : Nat → Nat} (h : ∀ j, rc j < 2 ^ 21) (u : Nat) {x : Nat} (hx : x < 2 ^ 21) (j : Nat) : seR rc u x j < 2 ^ 21 := by
  unfold seR
  split
  · exact mx_or_lt (h u) hx
  · exact h j
theorem rcR1 {v : Gr} {A : Pa} {bl lv u : Nat} {x : Sg} (hw : ∀ j, x.2.2.2 j < 2 ^ 21) (h : ∀ j, x.2.2.1 j < 2 ^ 21) (j : Nat) : (sRow1 v A bl lv u x).2.2.1 j < 2 ^ 21 := by
  unfold sRow1
  split
  · exact h j
  · exact seR_lt h u (mx_wo_lt (hw _)) j
theorem rcRow {v : Gr} {A : Pa} (hA : wfP A) {bl lv : Nat} {x : Sg} (hs : sOk (lv + 1) x) (h : ∀ j, x.2.2.1 j < 2 ^ 21) : ∀ u j, (sRow v A bl lv u x).2.2.1 j < 2 ^ 21
  | 0, j => h j
  | u + 1, j => rcR1 (hs.row hA u).2.2 (rcRow hA hs h u) j
theorem rcRun {v : Gr} {A : Pa} (hA : wfP A) {bl : Nat} {qq : Option Nat} : ∀ (f lv : Nat) (x : Sg), sOk lv x → (∀ j, x.2.2.1 j < 2 ^ 21) → ∀ j, (sRun v A bl qq f lv x).2.2.1 j < 2 ^ 21
  | 0, lv, x, h, hr, j => hr j
  | f + 1, lv, x, h, hr, j => by
    unfold sRun
    split
    · next c =>
      have h1 := rcRow (v := v) hA (bl := bl) (h.up (by omega)) hr (gP v)
      split
      · exact h1 j
      · exact rcRun hA f (lv + 1) _ ((h.up (by omega)).row hA (gP v)) h1 j
    · exact hr j
theorem rcFin {v : Gr} {A : Pa} (hA : wfP A) (p : Nat) (qq : Option Nat) (bl lim j : Nat) : (sFin v A p qq bl lim).2.2.1 j < 2 ^ 21 := rcRun hA lim 0 _ (sOk.ini p) (fun _ => Nat.two_pow_pos 21) j
theorem sCs_lm {v : Gr} {A : Pa} (hA : wfP A) {p bl lim u z : Nat} {qq : Option Nat} (h : sCs v A p qq bl lim u = some z) : z < lim := by
  have h1 := ((sOk.ini p).run (bl := bl) (v := v) hA (qq := qq) lim 0 (sIni p)).2.1 u z h
  omega
/-- a graph's arrays, but for the number of its steps -/
def drN (I : mx_I) (o : Nat) (v : Gr) : Prop := wfG v ∧ I o 0 = nI (gP v) ∧ arN I (o + 1) (gF v) (gN v) ∧ arN I (o + 2) (gK v) (gN v) ∧ arN I (o + 3) (gT v) (gN v) ∧ arN I (o + 4) (gC v) (gN v)
theorem stN.dr {I : mx_I} {o : Nat} {v : Gr} (h : stN I o v) : drN I o v := ⟨h.1, h.2.1, h.2.2.2.1, h.2.2.2.2.1, h.2.2.2.2.2.1, h.2.2.2.2.2.2⟩
theorem drN.st {I : mx_I} {o : Nat} {v : Gr} (h : drN I o v) : stN (mx_u I o 1 (nI (gN v))) o v := by
  obtain ⟨h1, h2, h3, h4, h5, h6⟩ := h
  exact ⟨h1, by rw [mx_u_at, if_neg (by omega)]; exact h2, by rw [mx_u_at, if_pos ⟨rfl, rfl⟩], h3.o (by omega), h4.o (by omega), h5.o (by omega), h6.o (by omega)⟩
theorem stN.drp {I : mx_I} {o p k q c : Nat} {v : Gr} (hv : wfG v) (h : stN I o (gPut v p k q c)) : drN I o v := by
  obtain ⟨h1, h2, h3, h4, h5, h6, h7⟩ := h
  refine ⟨hv, h2, fun s hs => ?_, fun s hs => ?_, fun s hs => ?_, fun s hs => ?_⟩
  · exact (h4 s (by show s < gN v + 1; omega)).trans (congrArg nI (if_neg (by omega)))
  · exact (h5 s (by show s < gN v + 1; omega)).trans (congrArg nI (if_neg (by omega)))
  · exact (h6 s (by show s < gN v + 1; omega)).trans (congrArg nI (if_neg (by omega)))
  · exact (h7 s (by show s < gN v + 1; omega)).trans (congrArg nI (if_neg (by omega)))
theorem drN.k {I I' : mx_I} {o : Nat} {v : Gr} (h : drN I o v) (e : ∀ b, o ≤ b → b < o + 5 → I' b = I b) : drN I' o v := by
  obtain ⟨h1, h2, h3, h4, h5, h6⟩ := h
  have e0 := e o (by omega) (by omega)
  have e1 := e (o + 1) (by omega) (by omega)
  have e2 := e (o + 2) (by omega) (by omega)
  have e3 := e (o + 3) (by omega) (by omega)
  have e4 := e (o + 4) (by omega) (by omega)
  exact ⟨h1, by rw [e0]; exact h2, fun s hs => by rw [e1]; exact h3 s hs, fun s hs => by rw [e2]; exact h4 s hs, fun s hs => by rw [e3]; exact h5 s hs, fun s hs => by rw [e4]; exact h6 s hs⟩
/-- nothing but the draft and what searches has changed -/
def dfr (a : Nat) (I I1 : mx_I) : Prop := ∀ b, (b < a + 42 ∨ (a + 47 ≤ b ∧ b < a + 131) ∨ a + 146 ≤ b) → I1 b = I b
theorem dfr.rf (a : Nat) (I : mx_I) : dfr a I I := fun _ _ => rfl
theorem dfr.tr {a : Nat} {I I1 I2 : mx_I} (h : dfr a I I1) (k : dfr a I1 I2) : dfr a I I2 := fun b q => (k b q).trans (h b q)
theorem dfr.of {a lo hi : Nat} {I I1 : mx_I} (h : mx_fr I I1 lo hi) (h1 : (a + 42 ≤ lo ∧ hi ≤ a + 47) ∨ (a + 131 ≤ lo ∧ hi ≤ a + 146)) : dfr a I I1 := fun b q => h b (by omega)
theorem cW.d {G : mx_G} {I I1 : mx_I} {a : Nat} {z : Zs} (h : cW G I a z) (k : dfr a I I1) : cP G I a z G I1 := h.k (mx_sm.rf G) (Nat.le_refl _) (fun _ _ => rfl) (fun b q1 _ => k b (by omega))
/-- the draft has become the state -/
theorem cW.dc {G : mx_G} {I I' : mx_I} {a pt : Nat} {z : Zs} (h : cW G I a z) (hr : mx_rf G (a + 37) 6 = pt) (m3 : mx_fr I I' (a + 42) (a + 42 + 5)) : cP G I a z (mx_uR G (a + 42) 6 pt) I' ∧ mx_rf (mx_uR G (a + 42) 6 pt) (a + 42) 6 = mx_rf (mx_uR G (a + 42) 6 pt) (a + 37) 6 := by
  obtain ⟨tg9, ⟨f0, oTx⟩, ⟨f1, oPt⟩, ⟨f2, oRd⟩, ⟨f3, -⟩, ⟨f4, oDr⟩, -⟩ := h.1.1
  refine ⟨h.k ((mx_sm.rf G).u6 oDr.1) (Nat.le_refl _) (fun o ho => by rw [mx_rf_uR, if_neg (by omega)]) (fun b q1 _ => m3 b (by omega)), ?_⟩
  rw [mx_rf_uR, if_pos ⟨rfl, rfl⟩, mx_rf_uR, if_neg (by omega), hr]
/-- the environment that the draft is -/
theorem denvW {G : mx_G} {I : mx_I} {a : Nat} {z : Zs} {v : Gr} (h : cW G I a z) (hr : mx_rf G (a + 42) 6 = mx_rf G (a + 37) 6) (hv : stN I (a + 42) v) : env G I (a + 42) (mx_rf G (a + 37) 6) v (vA (zX z)) :=
  ⟨h.1.1.2.2.2.2.2.1.2, h.env.2.1, hr, hv, h.env.2.2.2.2⟩
/-- nothing but the draft and the trial has changed -/
def bfr (a : Nat) (I I1 : mx_I) : Prop := ∀ b, (b < a + 42 ∨ (a + 47 ≤ b ∧ b < a + 136) ∨ a + 141 ≤ b) → I1 b = I b
theorem bfr.rf (a : Nat) (I : mx_I) : bfr a I I := fun _ _ => rfl
theorem bfr.tr {a : Nat} {I I1 I2 : mx_I} (h : bfr a I I1) (k : bfr a I1 I2) : bfr a I I2 := fun b q => (k b q).trans (h b q)
theorem bfr.d {a : Nat} {I I1 : mx_I} (h : bfr a I I1) : dfr a I I1 := fun b q => h b (by omega)
theorem bfr.of {a : Nat} {I I2 I3 : mx_I} (h : mx_fr I I2 (a + 42) (a + 42 + 5)) (m : mx_fr I2 I3 (a + 136) (a + 136 + 5)) : bfr a I I3 := fun b q => (m b (by omega)).trans (h b (by omega))
theorem bfr.dr {a : Nat} {I2 I3 : mx_I} {v : Gr} (h : drN I2 (a + 42) v) (m : mx_fr I2 I3 (a + 136) (a + 136 + 5)) : drN I3 (a + 42) v := h.k (fun b q1 q2 => m b (by omega))
theorem bfr.p {a : Nat} {I I1 : mx_I} (h : bfr a I I1) : I1 (a + 37) = I (a + 37) := h _ (by omega)
theorem bfr.cs {a : Nat} {I I1 : mx_I} {cs : Nat → Option Nat} (h : bfr a I I1) (k : csN I (a + 132) cs 8) : csN I1 (a + 132) cs 8 := fun u hu => by rw [h (a + 132) (by omega)]; exact k u hu
theorem bfr.rc {a : Nat} {I I1 : mx_I} {rc : Nat → Nat} (h : bfr a I I1) (k : arN I (a + 133) rc 8) : arN I1 (a + 133) rc 8 := fun u hu => by rw [h (a + 133) (by omega)]; exact k u hu
theorem bfr.o {a : Nat} {I I1 : mx_I} (h : mx_fr I I1 (a + 42) (a + 42 + 5)) : bfr a I I1 := fun b q => h b (by omega)
abbrev csZ (z : Zs) (p : Nat) : Nat → Option Nat := sCs (zG z) (vA (zX z)) p none 0 1512
abbrev rcZ (z : Zs) (p : Nat) : Nat → Nat := (sFin (zG z) (vA (zX z)) p none 0 1512).2.2.1
/-- the best cost with the new step v, below the limit -/
def cwA (z : Zs) (p q v lim : Nat) : Option Nat := if pFol (vA (zX z)) (rcZ z p (v / 100)) &&& pE (vA (zX z)) (v / 10 % 10) = 0 ∧ pFol (vA (zX z)) (rcZ z p (v % 10)) &&& pE (vA (zX z)) (4 + v / 10 % 10) = 0 then csZ z p q else sCs (nwG z v) (vA (zX z)) p (some q) 0 lim q
def bnL (z : Zs) (p q : Nat) : Nat → Option Nat × Nat
  | 0 => (none, 1512)
  | v + 1 => if mayB z v then (match cwA z p q v (bnL z p q v).2 with
    | none => bnL z p q v
    | some c => if c < (bnL z p q v).2 then (some v, c) else bnL z p q v) else bnL z p q v
def an_bestNew (z : Zs) (p q : Nat) : Option Nat := (bnL z p q (100 * gP (zG z))).1
theorem bnL_le (z : Zs) (p q : Nat) : ∀ v, (bnL z p q v).2 ≤ 1512
  | 0 => Nat.le_refl _
  | v + 1 => by
    have := bnL_le z p q v
    unfold bnL
    split
    · split
      · exact this
      · next c _ =>
        split
        · next h => exact Nat.le_trans (Nat.le_of_lt h) this
        · exact this
    · exact this
theorem bnL_0 {z : Zs} {p q v : Nat} {x : Option Nat × Nat} (h : bnL z p q v = x) (hm : ¬ mayB z v) : bnL z p q (v + 1) = x := by
  show (if mayB z v then _ else _) = _
  rw [if_neg hm]; exact h
theorem bnL_1 {z : Zs} {p q v l : Nat} {fo : Option Nat} (h : bnL z p q v = (fo, l)) (hm : mayB z v) (hc : cwA z p q v l = none) : bnL z p q (v + 1) = (fo, l) := by
  show (if mayB z v then (match cwA z p q v (bnL z p q v).2 with
    | none => bnL z p q v
    | some c => if c < (bnL z p q v).2 then (some v, c) else bnL z p q v) else bnL z p q v) = _
  rw [if_pos hm, h]
  show (match cwA z p q v l with
    | none => (fo, l)
    | some c => if c < l then (some v, c) else (fo, l)) = _
  rw [hc]
theorem bnL_2 {z : Zs} {p q v l c : Nat} {fo : Option Nat} (h : bnL z p q v = (fo, l)) (hm : mayB z v) (hc : cwA z p q v l = some c) : bnL z p q (v + 1) = if c < l then (some v, c) else (fo, l) := by
  show (if mayB z v then (match cwA z p q v (bnL z p q v).2 with
    | none => bnL z p q v
    | some c => if c < (bnL z p q v).2 then (some v, c) else bnL z p q v) else bnL z p q v) = _
  rw [if_pos hm, h]
  show (match cwA z p q v l with
    | none => (fo, l)
    | some c => if c < l then (some v, c) else (fo, l)) = _
  rw [hc]
theorem cwA_lt {z : Zs} (hA : wfP (vA (zX z))) {p q v lim c : Nat} (hl : lim ≤ 1512) (h : cwA z p q v lim = some c) : c < 1512 := by
  unfold cwA at h
  split at h
  · exact sCs_lm hA h
  · have := sCs_lm hA h; omega
/-- what the compares of the answer tell -/
theorem cw_c {x : Option Nat} (h31 : ∀ c, x = some c → c < 1512) (h : ¬ oI x = -9) : ∃ c, x = some c ∧ (oI x).toInt = (c : Int) ∧ oI x = nI c := by
  cases x with
  | none => exact absurd rfl h
  | some c => exact ⟨c, rfl, nI_toInt (by have := h31 c rfl; omega), rfl⟩

set_option maxHeartbeats 400000 in
set_option maxRecDepth 100000 in
theorem ct_isNew (G : mx_G) (I : mx_I) (a : Nat) (z : Zs) (hW : cW G I a z) (v : Nat) (hv8 : v < 800) : mx_CTp yX9_isNew mX9_isNew 3 [.ref a, .int (nI v)] G I (some (.int (mx_b (decide (mayB z v))))) := by
  refine mx_start (k := 3) (by decide) rfl rfl (fun h => nomatch h) (Nat.le_of_ble_eq_true rfl) ?_
  show mx_V mX9_isNew mx_S0 3 0 0 0 [some (.ref a), some (.int (nI v)), none, none, none] [] G I (fun rv Gz Iz => rv = some (.int (mx_b (decide (mayB z v)))) ∧ Gz = G ∧ Iz = I) (fun _ _ _ => False)
  have hW0 := hW
  obtain ⟨⟨hSP, hsz, hpe⟩, hTx, hSt, hHi, hSl⟩ := hW
  have oSt : oST G (a + 37) := hSP.2.2.2.2.1.2
  obtain ⟨tg9, ⟨f0, oTx⟩, ⟨f1, oPt⟩, ⟨f2, oRd⟩, ⟨f3, -⟩, ⟨f4, oDr⟩, ⟨f5, oHi⟩, ⟨f6, gSl, lSl, ⟨rq0, oS0⟩, ⟨rq1, oS1⟩⟩, ⟨f7, gFi, lFi⟩, ⟨f8, oSe⟩, ⟨f9, oTr⟩, ⟨f10, oBp⟩⟩ := hSP
  have tg0 : mx_tg G (a + 1) = 17 := oTx.1
  have tg1 : mx_tg G (a + 3) = 12 := oPt.1
  have tg2 : mx_tg G (a + 8) = 13 := oRd.1
  have tg3 : mx_tg G (a + 37) = 16 := oSt.1
  have tg4 : mx_tg G (a + 42) = 16 := oDr.1
  have tg5 : mx_tg G (a + 47) = 11 := oHi.1
  have tg6 : mx_tg G (a + 131) = 15 := oSe.1
  have tg7 : mx_tg G (a + 136) = 15 := oTr.1
  have tg8 : mx_tg G (a + 141) = 10 := oBp.1
  obtain ⟨rT, tT, lT⟩ : mx_rf G (a + 1) 0 = a + 2 ∧ mx_tg G (a + 2) = 2 ∧ mx_ln G (a + 2) = 110 := oTx.2
  have oSt0 : oST G (a + 37) := oSt
  obtain ⟨-, ⟨rF, tF, lF⟩, ⟨rK, tK, lK⟩, ⟨rO, tO, lO⟩, ⟨rC, tC, lC⟩⟩ : mx_tg G (a + 37) = 16 ∧ (mx_rf G (a + 37) 2 = a + 38 ∧ mx_tg G (a + 38) = 1 ∧ mx_ln G (a + 38) = 25) ∧ (mx_rf G (a + 37) 3 = a + 39 ∧ mx_tg G (a + 39) = 1 ∧ mx_ln G (a + 39) = 25) ∧ (mx_rf G (a + 37) 4 = a + 40 ∧ mx_tg G (a + 40) = 1 ∧ mx_ln G (a + 40) = 25) ∧ (mx_rf G (a + 37) 5 = a + 41 ∧ mx_tg G (a + 41) = 1 ∧ mx_ln G (a + 41) = 25) := oSt
  have hSv : stN I (a + 37) (zG z) := hSt.1
  obtain ⟨⟨hP8, hN25, hvb⟩, hs0, hs1, hsF, hsK, hsT, hsC⟩ : stN I (a + 37) (zG z) := hSt.1
  have hN24 : gN (zG z) ≤ 24 := hSt.2.1.1
  have hTx0 := hTx
  obtain ⟨hn110, ht1, htc, htb⟩ : txN I (a + 1) (zN z) (zT z) := hTx
  refine mx_iload_n (i := 1) (hi := rfl) (hl := rfl) (hd := dX9_isNew_0) ?_
  refine mx_bipushN 100 dX9_isNew_1 (by decide) ?_
  refine mx_idivN dX9_isNew_3 (by omega) (by decide) ?_
  refine mx_istoreE_n (i := 2) (ls' := [some (.ref a), some (.int (nI v)), some (.int (nI (v / 100))), none, none]) (hi := rfl) (hd := dX9_isNew_4) (hn := by decide) (hok := rfl) (hls := rfl) ?_
  refine mx_iload_n (i := 1) (hi := rfl) (hl := rfl) (hd := dX9_isNew_5) ?_
  refine mx_bipushN 10 dX9_isNew_6 (by decide) ?_
  refine mx_idivN dX9_isNew_8 (by omega) (by decide) ?_
  refine mx_bipushN 10 dX9_isNew_9 (by decide) ?_
  refine mx_iremN dX9_isNew_11 (by omega) (by decide) ?_
  refine mx_istoreE_n (i := 3) (ls' := [some (.ref a), some (.int (nI v)), some (.int (nI (v / 100))), some (.int (nI ((v / 10) % 10))), none]) (hi := rfl) (hd := dX9_isNew_12) (hn := by decide) (hok := rfl) (hls := rfl) ?_
  refine mx_iload_n (i := 1) (hi := rfl) (hl := rfl) (hd := dX9_isNew_13) ?_
  refine mx_bipushN 10 dX9_isNew_14 (by decide) ?_
  refine mx_iremN dX9_isNew_16 (by omega) (by decide) ?_
  refine mx_istoreE (i := 4) (ls' := [some (.ref a), some (.int (nI v)), some (.int (nI (v / 100))), some (.int (nI ((v / 10) % 10))), some (.int (nI (v % 10)))]) (hd := dX9_isNew_17) (hn := by decide) (hok := rfl) (hls := rfl) ?_
  refine mx_aload_n (i := 0) (hi := rfl) (hl := rfl) (hd := dX9_isNew_19) ?_
  refine mx_getR (ci := 9) (k := 3) (r := (a + 37)) dX9_isNew_20 k_299 (by decide) rfl (by assumption) (by assumption) (by omega) ?_
  refine mx_iload_n (i := 2) (hi := rfl) (hl := rfl) (hd := dX9_isNew_23) ?_
  refine mx_iload (i := 4) (hl := rfl) (hd := dX9_isNew_24) ?_
  refine mx_callVp (ci := 6) (As := [.int (nI (v / 100)), .int (nI (v % 10))]) (rest := []) dX9_isNew_26 (ct_hasPeopleN G I (a + 37) _ oSt0 hSv (v / 100) (v % 10) (by omega) (by omega)) km_X6_hasPeople rfl k_533 k_466 k_467 (by assumption) rfl rfl (Nat.le_of_ble_eq_true rfl) (by decide) ?_
  refine mx_ifB_eq 65 dX9_isNew_29 (by decide) (fun c29 => ?_) (fun c29 => ?_)
  · skip
    have hng : ¬ mayB z v := by
      intro h9
      obtain ⟨⟨⟨⟨a1, a2⟩, a3⟩, a4⟩, a5⟩ := h9
      first | exact c29 ⟨a1, a2⟩ | exact a3 c35 | exact c42 a4 | exact c58 ((gIx_iff hN25).mpr a5)
    refine mx_iconstN 0 dX9_isNew_65 (by decide) ?_
    exact mx_iret dX9_isNew_66 rfl (by decide) (⟨congrArg (fun z => some (Value.int z)) (mx_bF hng), rfl, rfl⟩)
  · skip
    refine mx_iload_n (i := 2) (hi := rfl) (hl := rfl) (hd := dX9_isNew_32) ?_
    refine mx_iload (i := 4) (hl := rfl) (hd := dX9_isNew_33) ?_
    refine mx_cmpN_eq 65 dX9_isNew_35 (by decide) (by omega) (by omega) (fun c35 => ?_) (fun c35 => ?_)
    · skip
      have hng : ¬ mayB z v := by
        intro h9
        obtain ⟨⟨⟨⟨a1, a2⟩, a3⟩, a4⟩, a5⟩ := h9
        first | exact c29 ⟨a1, a2⟩ | exact a3 c35 | exact c42 a4 | exact c58 ((gIx_iff hN25).mpr a5)
      refine mx_iconstN 0 dX9_isNew_65 (by decide) ?_
      exact mx_iret dX9_isNew_66 rfl (by decide) (⟨congrArg (fun z => some (Value.int z)) (mx_bF hng), rfl, rfl⟩)
    · skip
      refine mx_iload_n (i := 3) (hi := rfl) (hl := rfl) (hd := dX9_isNew_38) ?_
      refine mx_callSp (As := [.int (nI ((v / 10) % 10))]) (rest := []) dX9_isNew_39 (ct_isKindN G I (v / 10 % 10) (by omega)) km_X9_isKind rfl k_524 k_474 rfl rfl (Nat.le_of_ble_eq_true rfl) (by decide) ?_
      refine mx_ifB_eq 65 dX9_isNew_42 (by decide) (fun c42 => ?_) (fun c42 => ?_)
      · skip
        have hng : ¬ mayB z v := by
          intro h9
          obtain ⟨⟨⟨⟨a1, a2⟩, a3⟩, a4⟩, a5⟩ := h9
          first | exact c29 ⟨a1, a2⟩ | exact a3 c35 | exact c42 a4 | exact c58 ((gIx_iff hN25).mpr a5)
        refine mx_iconstN 0 dX9_isNew_65 (by decide) ?_
        exact mx_iret dX9_isNew_66 rfl (by decide) (⟨congrArg (fun z => some (Value.int z)) (mx_bF hng), rfl, rfl⟩)
      · skip
        refine mx_aload_n (i := 0) (hi := rfl) (hl := rfl) (hd := dX9_isNew_45) ?_
        refine mx_getR (ci := 9) (k := 3) (r := (a + 37)) dX9_isNew_46 k_299 (by decide) rfl (by assumption) (by assumption) (by omega) ?_
        refine mx_iload_n (i := 2) (hi := rfl) (hl := rfl) (hd := dX9_isNew_49) ?_
        refine mx_iload_n (i := 3) (hi := rfl) (hl := rfl) (hd := dX9_isNew_50) ?_
        refine mx_iload (i := 4) (hl := rfl) (hd := dX9_isNew_51) ?_
        refine mx_callVp (ci := 6) (As := [.int (nI (v / 100)), .int (nI ((v / 10) % 10)), .int (nI (v % 10))]) (rest := []) dX9_isNew_53 (ct_indexOf G I (a + 37) _ oSt0 hSv (v / 100) (v / 10 % 10) (v % 10) (by omega) (by omega) (by omega)) km_X6_indexOf rfl k_747 k_480 k_481 (by assumption) rfl rfl (Nat.le_of_ble_eq_true rfl) (by decide) ?_
        refine mx_bipush (v := (-9)) (by decide) dX9_isNew_56 ?_
        refine mx_icmp_ne (tgt := 65) dX9_isNew_58 (by decide) (fun c58 => ?_) (fun c58 => ?_)
        · skip
          have hng : ¬ mayB z v := by
            intro h9
            obtain ⟨⟨⟨⟨a1, a2⟩, a3⟩, a4⟩, a5⟩ := h9
            first | exact c29 ⟨a1, a2⟩ | exact a3 c35 | exact c42 a4 | exact c58 ((gIx_iff hN25).mpr a5)
          refine mx_iconstN 0 dX9_isNew_65 (by decide) ?_
          exact mx_iret dX9_isNew_66 rfl (by decide) (⟨congrArg (fun z => some (Value.int z)) (mx_bF hng), rfl, rfl⟩)
        · skip
          refine mx_iconstN 1 dX9_isNew_61 (by decide) ?_
          refine mx_goto (tgt := 66) dX9_isNew_62 (by decide) ?_
          exact mx_iret dX9_isNew_66 rfl (by decide) (⟨congrArg (fun z => some (Value.int z)) (mx_bT ⟨⟨⟨c29, c35⟩, c42⟩, (gIx_iff hN25).mp c58⟩), rfl, rfl⟩)

set_option maxHeartbeats 1000000 in
set_option maxRecDepth 100000 in
theorem ct_costWith (G : mx_G) (I : mx_I) (a : Nat) (z : Zs) (hW : cW G I a z) (p q v lim : Nat) (hp : p < gP (zG z)) (hq : q < gP (zG z)) (hl : lim ≤ 1512) (hm : mayB z v) (hdr : drN I (a + 42) (zG z)) (hrd : mx_rf G (a + 42) 6 = mx_rf G (a + 37) 6) (hcs : csN I (a + 132) (csZ z p) 8) (hrc : arN I (a + 133) (rcZ z p) 8) : mx_CTi yX9_costWith mX9_costWith 5 [.ref a, .int (nI v), .int (nI p), .int (nI q), .int (nI lim)] G I (fun rv I1 => rv = some (.int (oI (cwA z p q v lim))) ∧ drN I1 (a + 42) (zG z) ∧ bfr a I I1) := by
  refine mx_start (k := 3) (by decide) rfl rfl (fun h => nomatch h) (Nat.le_of_ble_eq_true rfl) ?_
  show mx_V mX9_costWith mx_S0 5 0 0 0 [some (.ref a), some (.int (nI v)), some (.int (nI p)), some (.int (nI q)), some (.int (nI lim)), none, none, none] [] G I (fun rv Gz Iz => (fun rv I1 => rv = some (.int (oI (cwA z p q v lim))) ∧ drN I1 (a + 42) (zG z) ∧ bfr a I I1) rv Iz ∧ Gz = G) (fun _ _ _ => False)
  obtain ⟨⟨⟨⟨hm1, hm2⟩, hm3⟩, hm4⟩, hm5⟩ := id hm
  have hW0 := hW
  obtain ⟨⟨hSP, hsz, hpe⟩, hTx, hSt, hHi, hSl⟩ := hW
  have oSt : oST G (a + 37) := hSP.2.2.2.2.1.2
  obtain ⟨tg9, ⟨f0, oTx⟩, ⟨f1, oPt⟩, ⟨f2, oRd⟩, ⟨f3, -⟩, ⟨f4, oDr⟩, ⟨f5, oHi⟩, ⟨f6, gSl, lSl, ⟨rq0, oS0⟩, ⟨rq1, oS1⟩⟩, ⟨f7, gFi, lFi⟩, ⟨f8, oSe⟩, ⟨f9, oTr⟩, ⟨f10, oBp⟩⟩ := hSP
  have tg0 : mx_tg G (a + 1) = 17 := oTx.1
  have tg1 : mx_tg G (a + 3) = 12 := oPt.1
  have tg2 : mx_tg G (a + 8) = 13 := oRd.1
  have tg3 : mx_tg G (a + 37) = 16 := oSt.1
  have tg4 : mx_tg G (a + 42) = 16 := oDr.1
  have tg5 : mx_tg G (a + 47) = 11 := oHi.1
  have tg6 : mx_tg G (a + 131) = 15 := oSe.1
  have tg7 : mx_tg G (a + 136) = 15 := oTr.1
  have tg8 : mx_tg G (a + 141) = 10 := oBp.1
  obtain ⟨rT, tT, lT⟩ : mx_rf G (a + 1) 0 = a + 2 ∧ mx_tg G (a + 2) = 2 ∧ mx_ln G (a + 2) = 110 := oTx.2
  have oSt0 : oST G (a + 37) := oSt
  obtain ⟨-, ⟨rF, tF, lF⟩, ⟨rK, tK, lK⟩, ⟨rO, tO, lO⟩, ⟨rC, tC, lC⟩⟩ : mx_tg G (a + 37) = 16 ∧ (mx_rf G (a + 37) 2 = a + 38 ∧ mx_tg G (a + 38) = 1 ∧ mx_ln G (a + 38) = 25) ∧ (mx_rf G (a + 37) 3 = a + 39 ∧ mx_tg G (a + 39) = 1 ∧ mx_ln G (a + 39) = 25) ∧ (mx_rf G (a + 37) 4 = a + 40 ∧ mx_tg G (a + 40) = 1 ∧ mx_ln G (a + 40) = 25) ∧ (mx_rf G (a + 37) 5 = a + 41 ∧ mx_tg G (a + 41) = 1 ∧ mx_ln G (a + 41) = 25) := oSt
  have hSv : stN I (a + 37) (zG z) := hSt.1
  obtain ⟨⟨hP8, hN25, hvb⟩, hs0, hs1, hsF, hsK, hsT, hsC⟩ : stN I (a + 37) (zG z) := hSt.1
  have hN24 : gN (zG z) ≤ 24 := hSt.2.1.1
  have hTx0 := hTx
  obtain ⟨hn110, ht1, htc, htb⟩ : txN I (a + 1) (zN z) (zT z) := hTx
  obtain ⟨pt, hpt⟩ : ∃ pt, mx_rf G (a + 37) 6 = pt := ⟨_, rfl⟩
  have he0 : env G I (a + 37) pt (zG z) (vA (zX z)) := by rw [← hpt]; exact hW0.env
  have hpd : pt = a + 3 ∨ a + 146 ≤ pt := by rw [← hpt]; exact hW0.2.2.1.2.2.1
  have hpd5 : pt + 5 ≤ mx_sz G := by rw [← hpt]; exact hW0.2.2.1.2.2.2.1
  have tgp : mx_tg G pt = 12 := he0.2.1.1
  obtain ⟨rch, tch, lch⟩ : mx_rf G pt 0 = pt + 1 ∧ mx_tg G (pt + 1) = 2 ∧ mx_ln G (pt + 1) = 40 := he0.2.1.2.1
  have hpn : ptN I pt (vA (zX z)) := he0.2.2.2.2
  have hwfp : wfP (vA (zX z)) := hpn.1
  have hwfg : wfG (zG z) := he0.2.2.2.1.1
  have hn40 : (zX z).2.1 ≤ 40 := hSt.2.1.2.1
  have hpz : I pt 1 = nI (zX z).2.1 := by
    rw [hpn.2.1, show pSz (vA (zX z)) = min (zX z).2.1 40 from (rdF_sz _ _).1, Nat.min_eq_left hn40]
  have hpl : I pt 2 = nI (pL (vA (zX z))) := hpn.2.2.1
  have hpc : ∀ i, i < (zX z).2.1 → I (pt + 1) i = nI ((zX z).2.2 i) := fun i hi => by
    have h := hpn.2.2.2.2.1 i (by rw [show pSz (vA (zX z)) = min (zX z).2.1 40 from (rdF_sz _ _).1, Nat.min_eq_left hn40]; exact hi)
    rw [h, show pCh (vA (zX z)) = (zX z).2.2 from (rdF_sz _ _).2]
  have hpc8 : ∀ i, i < (zX z).2.1 → (zX z).2.2 i < 256 := hSt.2.1.2.2.2
  have rsc : mx_rf G (a + 131) 0 = a + 132 := oSe.2.1.1
  have tcs : mx_tg G (a + 132) = 1 := oSe.2.1.2.1
  have lcs : mx_ln G (a + 132) = 8 := oSe.2.1.2.2
  have hgN : gP (nwG z v) = gP (zG z) := rfl
  refine mx_iload_n (i := 1) (hi := rfl) (hl := rfl) (hd := dX9_costWith_0) ?_
  refine mx_bipushN 100 dX9_costWith_1 (by decide) ?_
  refine mx_idivN dX9_costWith_3 (by omega) (by decide) ?_
  refine mx_istoreE (i := 5) (ls' := [some (.ref a), some (.int (nI v)), some (.int (nI p)), some (.int (nI q)), some (.int (nI lim)), some (.int (nI (v / 100))), none, none]) (hd := dX9_costWith_4) (hn := by decide) (hok := rfl) (hls := rfl) ?_
  refine mx_iload_n (i := 1) (hi := rfl) (hl := rfl) (hd := dX9_costWith_6) ?_
  refine mx_bipushN 10 dX9_costWith_7 (by decide) ?_
  refine mx_idivN dX9_costWith_9 (by omega) (by decide) ?_
  refine mx_bipushN 10 dX9_costWith_10 (by decide) ?_
  refine mx_iremN dX9_costWith_12 (by omega) (by decide) ?_
  refine mx_istoreE (i := 6) (ls' := [some (.ref a), some (.int (nI v)), some (.int (nI p)), some (.int (nI q)), some (.int (nI lim)), some (.int (nI (v / 100))), some (.int (nI ((v / 10) % 10))), none]) (hd := dX9_costWith_13) (hn := by decide) (hok := rfl) (hls := rfl) ?_
  refine mx_iload_n (i := 1) (hi := rfl) (hl := rfl) (hd := dX9_costWith_15) ?_
  refine mx_bipushN 10 dX9_costWith_16 (by decide) ?_
  refine mx_iremN dX9_costWith_18 (by omega) (by decide) ?_
  refine mx_istoreE (i := 7) (ls' := [some (.ref a), some (.int (nI v)), some (.int (nI p)), some (.int (nI q)), some (.int (nI lim)), some (.int (nI (v / 100))), some (.int (nI ((v / 10) % 10))), some (.int (nI (v % 10)))]) (hd := dX9_costWith_19) (hn := by decide) (hok := rfl) (hls := rfl) ?_
  refine mx_aload_n (i := 0) (hi := rfl) (hl := rfl) (hd := dX9_costWith_21) ?_
  refine mx_getR (ci := 9) (k := 8) (r := (a + 131)) dX9_costWith_22 k_304 (by decide) rfl (by assumption) (by assumption) (by omega) ?_
  refine mx_aload_n (i := 0) (hi := rfl) (hl := rfl) (hd := dX9_costWith_25) ?_
  refine mx_getR (ci := 9) (k := 3) (r := (a + 37)) dX9_costWith_26 k_299 (by decide) rfl (by assumption) (by assumption) (by omega) ?_
  refine mx_iload (i := 5) (hl := rfl) (hd := dX9_costWith_29) ?_
  refine mx_iload (i := 6) (hl := rfl) (hd := dX9_costWith_31) ?_
  refine mx_callVp (ci := 5) (As := [.ref (a + 37), .int (nI (v / 100)), .int (nI ((v / 10) % 10))]) (rest := []) dX9_costWith_33 (ct_couldGo G I (a + 131) oSe (a + 37) pt _ _ he0 (rcZ z p) hrc (v / 100) (v / 10 % 10) (by omega) (rcFin hwfp p none 0 1512 _) (by omega)) km_X5_couldGo rfl k_948 k_949 k_950 (by assumption) rfl rfl (Nat.le_of_ble_eq_true rfl) (by decide) ?_
  refine mx_ifB_ne 69 dX9_costWith_36 (by decide) (fun c36 => ?_) (fun c36 => ?_)
  · skip
    
    refine mx_aload_n (i := 0) (hi := rfl) (hl := rfl) (hd := dX9_costWith_69) ?_
    refine mx_getR (ci := 9) (k := 4) (r := (a + 42)) dX9_costWith_70 k_300 (by decide) rfl (by assumption) (by assumption) (by omega) ?_
    refine mx_aload_n (i := 0) (hi := rfl) (hl := rfl) (hd := dX9_costWith_73) ?_
    refine mx_getR (ci := 9) (k := 3) (r := (a + 37)) dX9_costWith_74 k_299 (by decide) rfl (by assumption) (by assumption) (by omega) ?_
    refine mx_getV (ci := 6) (k := 1) (nI (gN (zG z))) dX9_costWith_77 k_170 (by decide) rfl (by assumption) hs1 ?_
    refine mx_putI (ci := 6) (k := 1) dX9_costWith_80 k_170 (by decide) rfl rfl rfl rfl (by assumption) ?_
    refine mx_aload_n (i := 0) (hi := rfl) (hl := rfl) (hd := dX9_costWith_83) ?_
    refine mx_getR (ci := 9) (k := 4) (r := (a + 42)) dX9_costWith_84 k_300 (by decide) rfl (by assumption) (by assumption) (by omega) ?_
    refine mx_iload (i := 5) (hl := rfl) (hd := dX9_costWith_87) ?_
    refine mx_iload (i := 6) (hl := rfl) (hd := dX9_costWith_89) ?_
    refine mx_iload (i := 7) (hl := rfl) (hd := dX9_costWith_91) ?_
    refine mx_iconstN 1 dX9_costWith_93 (by decide) ?_
    refine mx_callVi (ci := 6) (As := [.int (nI (v / 100)), .int (nI ((v / 10) % 10)), .int (nI (v % 10)), .int (nI 1)]) (rest := []) dX9_costWith_94 (ct_put G (mx_u I (a + 42) 1 (nI (gN (zG z)))) (a + 42) (zG z) oDr hdr.st (v / 100) (v / 10 % 10) (v % 10) 1 (by omega) hm4 (by omega) (by decide) hN24) km_X6_put rfl k_483 k_484 k_485 (by assumption) rfl rfl (Nat.le_of_ble_eq_true rfl) (by decide) (fun r1 I2 h2 => ?_)
    obtain ⟨e9, n1, n2⟩ := h2
    subst e9
    have hfr2 : mx_fr I I2 (a + 42) (a + 42 + 5) := ((mx_fr.rf _ _ _).u (by omega)).tr n2
    have hW2 := hW0.d (dfr.of hfr2 (by omega))
    have he2 : env G I2 (a + 42) pt (nwG z v) (vA (zX z)) := by rw [← hpt]; exact denvW hW2.1 hrd n1
    refine mx_pop (hva := rfl) (hd := dX9_costWith_97) ?_
    refine mx_aload_n (i := 0) (hi := rfl) (hl := rfl) (hd := dX9_costWith_98) ?_
    refine mx_getR (ci := 9) (k := 9) (r := (a + 136)) dX9_costWith_99 k_305 (by decide) rfl (by assumption) (by assumption) (by omega) ?_
    refine mx_aload_n (i := 0) (hi := rfl) (hl := rfl) (hd := dX9_costWith_102) ?_
    refine mx_getR (ci := 9) (k := 4) (r := (a + 42)) dX9_costWith_103 k_300 (by decide) rfl (by assumption) (by assumption) (by omega) ?_
    refine mx_iload_n (i := 2) (hi := rfl) (hl := rfl) (hd := dX9_costWith_106) ?_
    refine mx_iload_n (i := 3) (hi := rfl) (hl := rfl) (hd := dX9_costWith_107) ?_
    refine mx_iconstN 0 dX9_costWith_108 (by decide) ?_
    refine mx_iload (i := 4) (hl := rfl) (hd := dX9_costWith_109) ?_
    refine mx_callVi (ci := 5) (As := [.ref (a + 42), .int (nI p), .int (nI q), .int (nI 0), .int (nI lim)]) (rest := []) dX9_costWith_111 (ct_between G I2 (a + 136) oTr (a + 42) pt _ _ he2 (by omega) (pd_o hpd (by decide)) p q 0 lim hp hq (by decide) hl) km_X5_between rfl k_534 k_535 k_536 (by assumption) rfl rfl (Nat.le_of_ble_eq_true rfl) (by decide) (fun r3 I3 h4 => ?_)
    obtain ⟨e9, m3⟩ := h4
    subst e9
    exact mx_iret dX9_costWith_114 rfl rfl (⟨⟨congrArg (fun x => some (Value.int (oI x))) (show _ = cwA z p q v lim by unfold cwA; rw [if_neg (fun q9 => c36 q9.1)]), bfr.dr (stN.drp hwfg n1) m3, bfr.of hfr2 m3⟩, rfl⟩)
  · skip
    refine mx_aload_n (i := 0) (hi := rfl) (hl := rfl) (hd := dX9_costWith_39) ?_
    refine mx_getR (ci := 9) (k := 8) (r := (a + 131)) dX9_costWith_40 k_304 (by decide) rfl (by assumption) (by assumption) (by omega) ?_
    refine mx_aload_n (i := 0) (hi := rfl) (hl := rfl) (hd := dX9_costWith_43) ?_
    refine mx_getR (ci := 9) (k := 3) (r := (a + 37)) dX9_costWith_44 k_299 (by decide) rfl (by assumption) (by assumption) (by omega) ?_
    refine mx_iload (i := 7) (hl := rfl) (hd := dX9_costWith_47) ?_
    refine mx_iconstN 4 dX9_costWith_49 (by decide) ?_
    refine mx_iload (i := 6) (hl := rfl) (hd := dX9_costWith_50) ?_
    refine mx_iaddN dX9_costWith_52 ?_
    refine mx_callVp (ci := 5) (As := [.ref (a + 37), .int (nI (v % 10)), .int (nI (4 + ((v / 10) % 10)))]) (rest := []) dX9_costWith_53 (ct_couldGo G I (a + 131) oSe (a + 37) pt _ _ he0 (rcZ z p) hrc (v % 10) (4 + v / 10 % 10) (by omega) (rcFin hwfp p none 0 1512 _) (by omega)) km_X5_couldGo rfl k_948 k_949 k_950 (by assumption) rfl rfl (Nat.le_of_ble_eq_true rfl) (by decide) ?_
    refine mx_ifB_ne 69 dX9_costWith_56 (by decide) (fun c56 => ?_) (fun c56 => ?_)
    · skip
      
      refine mx_aload_n (i := 0) (hi := rfl) (hl := rfl) (hd := dX9_costWith_69) ?_
      refine mx_getR (ci := 9) (k := 4) (r := (a + 42)) dX9_costWith_70 k_300 (by decide) rfl (by assumption) (by assumption) (by omega) ?_
      refine mx_aload_n (i := 0) (hi := rfl) (hl := rfl) (hd := dX9_costWith_73) ?_
      refine mx_getR (ci := 9) (k := 3) (r := (a + 37)) dX9_costWith_74 k_299 (by decide) rfl (by assumption) (by assumption) (by omega) ?_
      refine mx_getV (ci := 6) (k := 1) (nI (gN (zG z))) dX9_costWith_77 k_170 (by decide) rfl (by assumption) hs1 ?_
      refine mx_putI (ci := 6) (k := 1) dX9_costWith_80 k_170 (by decide) rfl rfl rfl rfl (by assumption) ?_
      refine mx_aload_n (i := 0) (hi := rfl) (hl := rfl) (hd := dX9_costWith_83) ?_
      refine mx_getR (ci := 9) (k := 4) (r := (a + 42)) dX9_costWith_84 k_300 (by decide) rfl (by assumption) (by assumption) (by omega) ?_
      refine mx_iload (i := 5) (hl := rfl) (hd := dX9_costWith_87) ?_
      refine mx_iload (i := 6) (hl := rfl) (hd := dX9_costWith_89) ?_
      refine mx_iload (i := 7) (hl := rfl) (hd := dX9_costWith_91) ?_
      refine mx_iconstN 1 dX9_costWith_93 (by decide) ?_
      refine mx_callVi (ci := 6) (As := [.int (nI (v / 100)), .int (nI ((v / 10) % 10)), .int (nI (v % 10)), .int (nI 1)]) (rest := []) dX9_costWith_94 (ct_put G (mx_u I (a + 42) 1 (nI (gN (zG z)))) (a + 42) (zG z) oDr hdr.st (v / 100) (v / 10 % 10) (v % 10) 1 (by omega) hm4 (by omega) (by decide) hN24) km_X6_put rfl k_483 k_484 k_485 (by assumption) rfl rfl (Nat.le_of_ble_eq_true rfl) (by decide) (fun r5 I2 h6 => ?_)
      obtain ⟨e9, n1, n2⟩ := h6
      subst e9
      have hfr2 : mx_fr I I2 (a + 42) (a + 42 + 5) := ((mx_fr.rf _ _ _).u (by omega)).tr n2
      have hW2 := hW0.d (dfr.of hfr2 (by omega))
      have he2 : env G I2 (a + 42) pt (nwG z v) (vA (zX z)) := by rw [← hpt]; exact denvW hW2.1 hrd n1
      refine mx_pop (hva := rfl) (hd := dX9_costWith_97) ?_
      refine mx_aload_n (i := 0) (hi := rfl) (hl := rfl) (hd := dX9_costWith_98) ?_
      refine mx_getR (ci := 9) (k := 9) (r := (a + 136)) dX9_costWith_99 k_305 (by decide) rfl (by assumption) (by assumption) (by omega) ?_
      refine mx_aload_n (i := 0) (hi := rfl) (hl := rfl) (hd := dX9_costWith_102) ?_
      refine mx_getR (ci := 9) (k := 4) (r := (a + 42)) dX9_costWith_103 k_300 (by decide) rfl (by assumption) (by assumption) (by omega) ?_
      refine mx_iload_n (i := 2) (hi := rfl) (hl := rfl) (hd := dX9_costWith_106) ?_
      refine mx_iload_n (i := 3) (hi := rfl) (hl := rfl) (hd := dX9_costWith_107) ?_
      refine mx_iconstN 0 dX9_costWith_108 (by decide) ?_
      refine mx_iload (i := 4) (hl := rfl) (hd := dX9_costWith_109) ?_
      refine mx_callVi (ci := 5) (As := [.ref (a + 42), .int (nI p), .int (nI q), .int (nI 0), .int (nI lim)]) (rest := []) dX9_costWith_111 (ct_between G I2 (a + 136) oTr (a + 42) pt _ _ he2 (by omega) (pd_o hpd (by decide)) p q 0 lim hp hq (by decide) hl) km_X5_between rfl k_534 k_535 k_536 (by assumption) rfl rfl (Nat.le_of_ble_eq_true rfl) (by decide) (fun r7 I3 h8 => ?_)
      obtain ⟨e9, m3⟩ := h8
      subst e9
      exact mx_iret dX9_costWith_114 rfl rfl (⟨⟨congrArg (fun x => some (Value.int (oI x))) (show _ = cwA z p q v lim by unfold cwA; rw [if_neg (fun q9 => c56 q9.2)]), bfr.dr (stN.drp hwfg n1) m3, bfr.of hfr2 m3⟩, rfl⟩)
    · skip
      refine mx_aload_n (i := 0) (hi := rfl) (hl := rfl) (hd := dX9_costWith_59) ?_
      refine mx_getR (ci := 9) (k := 8) (r := (a + 131)) dX9_costWith_60 k_304 (by decide) rfl (by assumption) (by assumption) (by omega) ?_
      refine mx_getR (ci := 5) (k := 0) (r := (a + 132)) dX9_costWith_63 k_248 (by decide) rfl (by assumption) (by assumption) (by omega) ?_
      refine mx_iload_n (i := 3) (hi := rfl) (hl := rfl) (hd := dX9_costWith_66) ?_
      refine mx_ialdV q (oI (csZ z p q) : Int32) dX9_costWith_67 (by assumption) ⟨rfl, by rw [lcs]; omega, by rw [lcs]; decide⟩ (hcs _ (by omega)) ?_
      exact mx_iret dX9_costWith_68 rfl rfl (⟨⟨congrArg (fun x => some (Value.int (oI x))) (show _ = cwA z p q v lim by unfold cwA; rw [if_pos ⟨Classical.not_not.mp c36, Classical.not_not.mp c56⟩]), hdr, bfr.rf a I⟩, rfl⟩)

theorem cP.up {G G3 : mx_G} {I I3 I4 : mx_I} {a : Nat} {z : Zs} (h : cP G I a z G3 I3) (k : dfr a I3 I4) : cP G I a z G3 I4 := h.tr (h.1.d k)

set_option maxHeartbeats 600000 in
set_option maxRecDepth 100000 in
theorem ct_bestNew (G : mx_G) (I : mx_I) (a : Nat) (z : Zs) (hW : cW G I a z) (p q : Int32) : mx_CT yX9_bestNew mX9_bestNew 8 1 6 [.ref a, .int p, .int q] G I (fun rv Gz Iz => fl_two z p q = 0 ∧ rv = some (.int (oI (an_bestNew z p.toInt.toNat q.toInt.toNat))) ∧ cP G I a z Gz Iz) (fun E Gz Iz => (fl_two z p q) ≠ 0 ∧ E = exN (fl_two z p q) ∧ cP G I a z Gz Iz) := by
  refine mx_start (k := 4) (by decide) rfl rfl (fun h => nomatch h) (Nat.le_of_ble_eq_true rfl) ?_
  show mx_V mX9_bestNew mx_S0 8 1 6 0 [some (.ref a), some (.int p), some (.int q), none, none, none, none] [] G I (fun rv Gz Iz => fl_two z p q = 0 ∧ rv = some (.int (oI (an_bestNew z p.toInt.toNat q.toInt.toNat))) ∧ cP G I a z Gz Iz) (fun E Gz Iz => (fl_two z p q) ≠ 0 ∧ E = exN (fl_two z p q) ∧ cP G I a z Gz Iz)
  have hW0 := hW
  obtain ⟨⟨hSP, hsz, hpe⟩, hTx, hSt, hHi, hSl⟩ := hW
  have oSt : oST G (a + 37) := hSP.2.2.2.2.1.2
  obtain ⟨tg9, ⟨f0, oTx⟩, ⟨f1, oPt⟩, ⟨f2, oRd⟩, ⟨f3, -⟩, ⟨f4, oDr⟩, ⟨f5, oHi⟩, ⟨f6, gSl, lSl, ⟨rq0, oS0⟩, ⟨rq1, oS1⟩⟩, ⟨f7, gFi, lFi⟩, ⟨f8, oSe⟩, ⟨f9, oTr⟩, ⟨f10, oBp⟩⟩ := hSP
  have tg0 : mx_tg G (a + 1) = 17 := oTx.1
  have tg1 : mx_tg G (a + 3) = 12 := oPt.1
  have tg2 : mx_tg G (a + 8) = 13 := oRd.1
  have tg3 : mx_tg G (a + 37) = 16 := oSt.1
  have tg4 : mx_tg G (a + 42) = 16 := oDr.1
  have tg5 : mx_tg G (a + 47) = 11 := oHi.1
  have tg6 : mx_tg G (a + 131) = 15 := oSe.1
  have tg7 : mx_tg G (a + 136) = 15 := oTr.1
  have tg8 : mx_tg G (a + 141) = 10 := oBp.1
  obtain ⟨rT, tT, lT⟩ : mx_rf G (a + 1) 0 = a + 2 ∧ mx_tg G (a + 2) = 2 ∧ mx_ln G (a + 2) = 110 := oTx.2
  have oSt0 : oST G (a + 37) := oSt
  obtain ⟨-, ⟨rF, tF, lF⟩, ⟨rK, tK, lK⟩, ⟨rO, tO, lO⟩, ⟨rC, tC, lC⟩⟩ : mx_tg G (a + 37) = 16 ∧ (mx_rf G (a + 37) 2 = a + 38 ∧ mx_tg G (a + 38) = 1 ∧ mx_ln G (a + 38) = 25) ∧ (mx_rf G (a + 37) 3 = a + 39 ∧ mx_tg G (a + 39) = 1 ∧ mx_ln G (a + 39) = 25) ∧ (mx_rf G (a + 37) 4 = a + 40 ∧ mx_tg G (a + 40) = 1 ∧ mx_ln G (a + 40) = 25) ∧ (mx_rf G (a + 37) 5 = a + 41 ∧ mx_tg G (a + 41) = 1 ∧ mx_ln G (a + 41) = 25) := oSt
  have hSv : stN I (a + 37) (zG z) := hSt.1
  obtain ⟨⟨hP8, hN25, hvb⟩, hs0, hs1, hsF, hsK, hsT, hsC⟩ : stN I (a + 37) (zG z) := hSt.1
  have hN24 : gN (zG z) ≤ 24 := hSt.2.1.1
  have hTx0 := hTx
  obtain ⟨hn110, ht1, htc, htb⟩ : txN I (a + 1) (zN z) (zT z) := hTx
  obtain ⟨pt, hpt⟩ : ∃ pt, mx_rf G (a + 37) 6 = pt := ⟨_, rfl⟩
  have he0 : env G I (a + 37) pt (zG z) (vA (zX z)) := by rw [← hpt]; exact hW0.env
  have hpd : pt = a + 3 ∨ a + 146 ≤ pt := by rw [← hpt]; exact hW0.2.2.1.2.2.1
  have hpd5 : pt + 5 ≤ mx_sz G := by rw [← hpt]; exact hW0.2.2.1.2.2.2.1
  have tgp : mx_tg G pt = 12 := he0.2.1.1
  obtain ⟨rch, tch, lch⟩ : mx_rf G pt 0 = pt + 1 ∧ mx_tg G (pt + 1) = 2 ∧ mx_ln G (pt + 1) = 40 := he0.2.1.2.1
  have hpn : ptN I pt (vA (zX z)) := he0.2.2.2.2
  have hwfp : wfP (vA (zX z)) := hpn.1
  have hwfg : wfG (zG z) := he0.2.2.2.1.1
  have hn40 : (zX z).2.1 ≤ 40 := hSt.2.1.2.1
  have hpz : I pt 1 = nI (zX z).2.1 := by
    rw [hpn.2.1, show pSz (vA (zX z)) = min (zX z).2.1 40 from (rdF_sz _ _).1, Nat.min_eq_left hn40]
  have hpl : I pt 2 = nI (pL (vA (zX z))) := hpn.2.2.1
  have hpc : ∀ i, i < (zX z).2.1 → I (pt + 1) i = nI ((zX z).2.2 i) := fun i hi => by
    have h := hpn.2.2.2.2.1 i (by rw [show pSz (vA (zX z)) = min (zX z).2.1 40 from (rdF_sz _ _).1, Nat.min_eq_left hn40]; exact hi)
    rw [h, show pCh (vA (zX z)) = (zX z).2.2 from (rdF_sz _ _).2]
  have hpc8 : ∀ i, i < (zX z).2.1 → (zX z).2.2 i < 256 := hSt.2.1.2.2.2
  refine mx_aload_n (i := 0) (hi := rfl) (hl := rfl) (hd := dX9_bestNew_0) ?_
  refine mx_getR (ci := 9) (k := 3) (r := (a + 37)) dX9_bestNew_1 k_299 (by decide) rfl (by assumption) (by assumption) (by omega) ?_
  refine mx_iload_n (i := 1) (hi := rfl) (hl := rfl) (hd := dX9_bestNew_4) ?_
  refine mx_iload_n (i := 2) (hi := rfl) (hl := rfl) (hd := dX9_bestNew_5) ?_
  refine mx_callVp (ci := 6) (As := [.int p, .int q]) (rest := []) dX9_bestNew_6 (ct_hasPeople G I (a + 37) _ oSt0 hSv p q) km_X6_hasPeople rfl k_533 k_466 k_467 (by assumption) rfl rfl (Nat.le_of_ble_eq_true rfl) (by decide) ?_
  refine mx_iconstN 1 dX9_bestNew_9 (by decide) ?_
  refine mx_callS (As := [.int (mx_b (decide ((0 ≤ p.toInt ∧ p.toInt < (gP (zG z) : Int)) ∧ (0 ≤ q.toInt ∧ q.toInt < (gP (zG z) : Int))))), .int (nI 1)]) (rest := []) (b1 := 1) (b2 := 6) dX9_bestNew_10 (ct_require G I ((0 ≤ p.toInt ∧ p.toInt < (gP (zG z) : Int)) ∧ (0 ≤ q.toInt ∧ q.toInt < (gP (zG z) : Int))) 1 (by decide)) km_X9_require rfl k_338 k_339 rfl rfl (Nat.le_of_ble_eq_true rfl) (by decide) (fun E G9 I9 h9 => mx_xo rfl (by have hf : fl_two z p q = 1 := (by unfold fl_two; rw [if_pos h9.1]); show (fl_two z p q) ≠ 0 ∧ E = exN (fl_two z p q) ∧ cP G I a z G9 I9; rw [hf]; exact ⟨by decide, hW0.id.thw h9.2.2⟩)) (fun r1 G3 I2 h4 => ?_)
  obtain ⟨e0, e1, e2, e3⟩ := h4
  have e2 := e2.symm
  subst e1; subst e2; subst e3
  have k1 : (0 ≤ p.toInt ∧ p.toInt < (gP (zG z) : Int)) ∧ (0 ≤ q.toInt ∧ q.toInt < (gP (zG z) : Int)) := e0.resolve_right (by decide)
  clear e0
  have hpne : p = nI p.toInt.toNat := (mx_nn (k1.1.1)).symm
  have hpnb : p.toInt.toNat < gP (zG z) := tn_lt k1.1
  have hpn31 : p.toInt.toNat < 2 ^ 31 := tn31 _
  generalize p.toInt.toNat = pn at hpne hpnb hpn31 ⊢
  subst hpne
  have hqne : q = nI q.toInt.toNat := (mx_nn (k1.2.1)).symm
  have hqnb : q.toInt.toNat < gP (zG z) := tn_lt k1.2
  have hqn31 : q.toInt.toNat < 2 ^ 31 := tn31 _
  generalize q.toInt.toNat = qn at hqne hqnb hqn31 ⊢
  subst hqne
  refine mx_aload_n (i := 0) (hi := rfl) (hl := rfl) (hd := dX9_bestNew_13) ?_
  refine mx_getR (ci := 9) (k := 8) (r := (a + 131)) dX9_bestNew_14 k_304 (by decide) rfl (by assumption) (by assumption) (by omega) ?_
  refine mx_aload_n (i := 0) (hi := rfl) (hl := rfl) (hd := dX9_bestNew_17) ?_
  refine mx_getR (ci := 9) (k := 3) (r := (a + 37)) dX9_bestNew_18 k_299 (by decide) rfl (by assumption) (by assumption) (by omega) ?_
  refine mx_iload_n (i := 1) (hi := rfl) (hl := rfl) (hd := dX9_bestNew_21) ?_
  refine mx_iconstN 0 dX9_bestNew_22 (by decide) ?_
  refine mx_callVi (ci := 5) (As := [.ref (a + 37), .int (nI pn), .int (nI 0)]) (rest := []) dX9_bestNew_23 (ct_fromPerson G I (a + 131) oSe (a + 37) pt _ _ he0 (qd_o (by decide)) (pd_o hpd (by decide)) pn 0 (by omega) (by decide)) km_X5_fromPerson rfl k_939 k_621 k_622 (by assumption) rfl rfl (Nat.le_of_ble_eq_true rfl) (by decide) (fun r5 I2 h6 => ?_)
  obtain ⟨e9, hse, m3, -⟩ := h6
  subst e9
  have hcs2 : csN I2 (a + 132) (csZ z pn) 8 := hse.2.1
  have hrc2 : arN I2 (a + 133) (rcZ z pn) 8 := hse.2.2.1
  have hP2 := hW0.scr m3 (by omega)
  have hSv2 : stN I2 (a + 37) (zG z) := hP2.1.2.2.1.1
  clear hse
  refine mx_aload_n (i := 0) (hi := rfl) (hl := rfl) (hd := dX9_bestNew_26) ?_
  refine mx_getR (ci := 9) (k := 4) (r := (a + 42)) dX9_bestNew_27 k_300 (by decide) rfl (by assumption) (by assumption) (by omega) ?_
  refine mx_aload_n (i := 0) (hi := rfl) (hl := rfl) (hd := dX9_bestNew_30) ?_
  refine mx_getR (ci := 9) (k := 3) (r := (a + 37)) dX9_bestNew_31 k_299 (by decide) rfl (by assumption) (by assumption) (by omega) ?_
  refine mx_callV (ci := 6) (As := [.ref (a + 37)]) (rest := []) (b1 := 0) (b2 := 0) dX9_bestNew_34 (ct_copyFrom G I2 (a + 42) (a + 37) pt _ oDr oSt0 hSv2 (Or.inr (by omega)) hpt tgp) km_X6_copyFrom rfl k_448 k_449 k_450 (by assumption) rfl rfl (Nat.le_of_ble_eq_true rfl) (by decide) (fun _ _ _ q => q.elim) (fun r7 G3 I3 h8 => ?_)
  obtain ⟨e9, e1, n1, n2⟩ := h8
  subst e9
  have hP3 : cP G I2 a z G3 I3 ∧ mx_rf G3 (a + 42) 6 = mx_rf G3 (a + 37) 6 := by rw [e1]; exact hP2.1.dc hpt n2
  obtain ⟨hP3, hrd⟩ := hP3
  have hcs3 : csN I3 (a + 132) (csZ z pn) 8 := (bfr.o n2).cs hcs2
  have hrc3 : arN I3 (a + 133) (rcZ z pn) 8 := (bfr.o n2).rc hrc2
  have hdr3 : drN I3 (a + 42) (zG z) := n1.dr
  have hP4 := hP2.tr hP3
  clear e1 n1 hcs2 hrc2 hSv2 hSl
  obtain ⟨⟨hSP, hsz, hpe⟩, hTx, hSt, hHi, hSl⟩ := hP3.1
  have oSt : oST G3 (a + 37) := hSP.2.2.2.2.1.2
  obtain ⟨tg9, ⟨f0, oTx⟩, ⟨f1, oPt⟩, ⟨f2, oRd⟩, ⟨f3, -⟩, ⟨f4, oDr⟩, ⟨f5, oHi⟩, ⟨f6, gSl, lSl, ⟨rq0, oS0⟩, ⟨rq1, oS1⟩⟩, ⟨f7, gFi, lFi⟩, ⟨f8, oSe⟩, ⟨f9, oTr⟩, ⟨f10, oBp⟩⟩ := hSP
  have tg0 : mx_tg G3 (a + 1) = 17 := oTx.1
  have tg1 : mx_tg G3 (a + 3) = 12 := oPt.1
  have tg2 : mx_tg G3 (a + 8) = 13 := oRd.1
  have tg3 : mx_tg G3 (a + 37) = 16 := oSt.1
  have tg4 : mx_tg G3 (a + 42) = 16 := oDr.1
  have tg5 : mx_tg G3 (a + 47) = 11 := oHi.1
  have tg6 : mx_tg G3 (a + 131) = 15 := oSe.1
  have tg7 : mx_tg G3 (a + 136) = 15 := oTr.1
  have tg8 : mx_tg G3 (a + 141) = 10 := oBp.1
  obtain ⟨rT, tT, lT⟩ : mx_rf G3 (a + 1) 0 = a + 2 ∧ mx_tg G3 (a + 2) = 2 ∧ mx_ln G3 (a + 2) = 110 := oTx.2
  have oSt0 : oST G3 (a + 37) := oSt
  obtain ⟨-, ⟨rF, tF, lF⟩, ⟨rK, tK, lK⟩, ⟨rO, tO, lO⟩, ⟨rC, tC, lC⟩⟩ : mx_tg G3 (a + 37) = 16 ∧ (mx_rf G3 (a + 37) 2 = a + 38 ∧ mx_tg G3 (a + 38) = 1 ∧ mx_ln G3 (a + 38) = 25) ∧ (mx_rf G3 (a + 37) 3 = a + 39 ∧ mx_tg G3 (a + 39) = 1 ∧ mx_ln G3 (a + 39) = 25) ∧ (mx_rf G3 (a + 37) 4 = a + 40 ∧ mx_tg G3 (a + 40) = 1 ∧ mx_ln G3 (a + 40) = 25) ∧ (mx_rf G3 (a + 37) 5 = a + 41 ∧ mx_tg G3 (a + 41) = 1 ∧ mx_ln G3 (a + 41) = 25) := oSt
  have hSv : stN I3 (a + 37) (zG z) := hSt.1
  obtain ⟨⟨hP8, hN25, hvb⟩, hs0, hs1, hsF, hsK, hsT, hsC⟩ : stN I3 (a + 37) (zG z) := hSt.1
  have hN24 : gN (zG z) ≤ 24 := hSt.2.1.1
  have hTx0 := hTx
  obtain ⟨hn110, ht1, htc, htb⟩ : txN I3 (a + 1) (zN z) (zT z) := hTx
  have hwfp : wfP (vA (zX z)) := hP3.1.env.2.2.2.2.1
  refine mx_bipush (v := (-9)) (by decide) dX9_bestNew_37 ?_
  refine mx_top (y := oI none) (rfl) ?_
  refine mx_istoreE_n (i := 3) (ls' := [some (.ref a), some (.int (nI pn)), some (.int (nI qn)), some (.int (oI none)), none, none, none]) (hi := rfl) (hd := dX9_bestNew_39) (hn := by decide) (hok := rfl) (hls := rfl) ?_
  refine mx_sipushN 1512 dX9_bestNew_40 (by decide) ?_
  refine mx_istoreE (i := 4) (ls' := [some (.ref a), some (.int (nI pn)), some (.int (nI qn)), some (.int (oI none)), some (.int (nI 1512)), none, none]) (hd := dX9_bestNew_43) (hn := by decide) (hok := rfl) (hls := rfl) ?_
  have L48 : ∀ (fq : Nat) (v : Nat) (fo : Option Nat) (l : Nat) (I4 : mx_I), 100 * gP (zG z) - v < fq → (v ≤ 100 * gP (zG z)) → (bnL z pn qn v = (fo, l)) → (drN I4 (a + 42) (zG z)) → (bfr a I3 I4) → mx_V mX9_bestNew mx_S0 8 0 0 48 [some (.ref a), some (.int (nI pn)), some (.int (nI qn)), some (.int (oI fo)), some (.int (nI l)), some (.int (nI v)), none] [] G3 I4 (fun rv Gz Iz => fl_two z (nI pn) (nI qn) = 0 ∧ rv = some (.int (oI (an_bestNew z pn qn))) ∧ cP G I a z Gz Iz) (fun E Gz Iz => (fl_two z (nI pn) (nI qn)) ≠ 0 ∧ E = exN (fl_two z (nI pn) (nI qn)) ∧ cP G I a z Gz Iz) := by
    intro fq
    induction fq with
    | zero => intro v fo l I4 hfu; exact absurd hfu (Nat.not_lt_zero _)
    | succ fq ih =>
      intro v fo l I4 hfu hv hx hdr4 hfr4
      have hl15 : l ≤ 1512 := by have := bnL_le z pn qn v; rw [hx] at this; exact this
      have hP5 := hP3.1.d hfr4.d
      refine mx_iload (i := 5) (hl := rfl) (hd := dX9_bestNew_48) ?_
      refine mx_bipushN 100 dX9_bestNew_50 (by decide) ?_
      refine mx_aload_n (i := 0) (hi := rfl) (hl := rfl) (hd := dX9_bestNew_52) ?_
      refine mx_getR (ci := 9) (k := 3) (r := (a + 37)) dX9_bestNew_53 k_299 (by decide) rfl (by assumption) (by assumption) (by omega) ?_
      refine mx_getV (ci := 6) (k := 0) (nI (gP (zG z))) dX9_bestNew_56 k_167 (by decide) rfl (by assumption) (by rw [hfr4.p]; exact hs0) ?_
      refine mx_imulN dX9_bestNew_59 ?_
      refine mx_cmpN_ge 111 dX9_bestNew_60 (by decide) (by omega) (by omega) (fun c60 => ?_) (fun c60 => ?_)
      · skip
        refine mx_iload_n (i := 3) (hi := rfl) (hl := rfl) (hd := dX9_bestNew_111) ?_
        exact mx_iret dX9_bestNew_112 rfl rfl (⟨by unfold fl_two; rw [if_neg (fun q => q k1)], by unfold an_bestNew; rw [show 100 * gP (zG z) = v by omega, hx], hP4.up hfr4.d⟩)
      · skip
        refine mx_aload_n (i := 0) (hi := rfl) (hl := rfl) (hd := dX9_bestNew_63) ?_
        refine mx_iload (i := 5) (hl := rfl) (hd := dX9_bestNew_64) ?_
        refine mx_callVp (ci := 9) (As := [.int (nI v)]) (rest := []) dX9_bestNew_66 (ct_isNew G3 I4 a z hP5.1 v (by omega)) km_X9_isNew rfl k_940 k_942 k_27 (by assumption) rfl rfl (Nat.le_of_ble_eq_true rfl) (by decide) ?_
        refine mx_ifB_eq 105 dX9_bestNew_69 (by decide) (fun c69 => ?_) (fun c69 => ?_)
        · skip
          refine mx_iincE (i := 5) (ls' := [some (.ref a), some (.int (nI pn)), some (.int (nI qn)), some (.int (oI fo)), some (.int (nI l)), some (.int (nI (v + 1))), none]) 1 dX9_bestNew_105 rfl (by decide) (by decide) rfl rfl ?_
          refine mx_goto (tgt := 48) dX9_bestNew_108 (by decide) ?_
          exact ih (v + 1) fo l _ (by omega) (by omega) (bnL_0 hx c69) hdr4 hfr4
        · skip
          refine mx_aload_n (i := 0) (hi := rfl) (hl := rfl) (hd := dX9_bestNew_72) ?_
          refine mx_iload (i := 5) (hl := rfl) (hd := dX9_bestNew_73) ?_
          refine mx_iload_n (i := 1) (hi := rfl) (hl := rfl) (hd := dX9_bestNew_75) ?_
          refine mx_iload_n (i := 2) (hi := rfl) (hl := rfl) (hd := dX9_bestNew_76) ?_
          refine mx_iload (i := 4) (hl := rfl) (hd := dX9_bestNew_77) ?_
          refine mx_callVi (ci := 9) (As := [.int (nI v), .int (nI pn), .int (nI qn), .int (nI l)]) (rest := []) dX9_bestNew_79 (ct_costWith G3 I4 a z hP5.1 pn qn v l (by omega) (by omega) hl15 c69 hdr4 hrd (hfr4.cs hcs3) (hfr4.rc hrc3)) km_X9_costWith rfl k_944 k_946 k_28 (by assumption) rfl rfl (Nat.le_of_ble_eq_true rfl) (by decide) (fun r9 I5 h10 => ?_)
          obtain ⟨e9, n2, n3⟩ := h10
          subst e9
          have hlt8 : ∀ c, cwA z pn qn v l = some c → c < 1512 := fun c hc => cwA_lt hwfp hl15 hc
          have hlt9 : ∀ c, cwA z pn qn v l = some c → c < 2 ^ 31 := fun c hc => by have := hlt8 c hc; omega
          refine mx_istoreE (i := 6) (ls' := [some (.ref a), some (.int (nI pn)), some (.int (nI qn)), some (.int (oI fo)), some (.int (nI l)), some (.int (nI v)), some (.int (oI (cwA z pn qn v l)))]) (hd := dX9_bestNew_82) (hn := by decide) (hok := rfl) (hls := rfl) ?_
          refine mx_iload (i := 6) (hl := rfl) (hd := dX9_bestNew_84) ?_
          refine mx_bipush (v := (-9)) (by decide) dX9_bestNew_86 ?_
          refine mx_icmp_eq (tgt := 105) dX9_bestNew_88 (by decide) (fun c88 => ?_) (fun c88 => ?_)
          · skip
            
            refine mx_iincE (i := 5) (ls' := [some (.ref a), some (.int (nI pn)), some (.int (nI qn)), some (.int (oI fo)), some (.int (nI l)), some (.int (nI (v + 1))), some (.int (oI (cwA z pn qn v l)))]) 1 dX9_bestNew_105 rfl (by decide) (by decide) rfl rfl ?_
            refine mx_goto (tgt := 48) dX9_bestNew_108 (by decide) ?_
            refine mx_leS (ls' := [some (.ref a), some (.int (nI pn)), some (.int (nI qn)), some (.int (oI fo)), some (.int (nI l)), some (.int (nI (v + 1))), none]) ⟨rfl, rfl, rfl, rfl, rfl, rfl, trivial⟩ ?_
            exact ih (v + 1) fo l _ (by omega) (by omega) (bnL_1 hx c69 ((oI_iff hlt9).mp c88)) n2 (hfr4.tr n3)
          · skip
            obtain ⟨c0, hc0, ht0, hi0⟩ := cw_c hlt8 c88
            refine mx_iload (i := 6) (hl := rfl) (hd := dX9_bestNew_91) ?_
            refine mx_iload (i := 4) (hl := rfl) (hd := dX9_bestNew_93) ?_
            refine mx_cmpRN_ge 105 dX9_bestNew_95 (by decide) (by omega) (fun c95 => ?_) (fun c95 => ?_)
            · skip
              
              refine mx_iincE (i := 5) (ls' := [some (.ref a), some (.int (nI pn)), some (.int (nI qn)), some (.int (oI fo)), some (.int (nI l)), some (.int (nI (v + 1))), some (.int (oI (cwA z pn qn v l)))]) 1 dX9_bestNew_105 rfl (by decide) (by decide) rfl rfl ?_
              refine mx_goto (tgt := 48) dX9_bestNew_108 (by decide) ?_
              refine mx_leS (ls' := [some (.ref a), some (.int (nI pn)), some (.int (nI qn)), some (.int (oI fo)), some (.int (nI l)), some (.int (nI (v + 1))), none]) ⟨rfl, rfl, rfl, rfl, rfl, rfl, trivial⟩ ?_
              exact ih (v + 1) fo l _ (by omega) (by omega) (by rw [bnL_2 hx c69 hc0, if_neg (by omega)]) n2 (hfr4.tr n3)
            · skip
              
              refine mx_iload (i := 5) (hl := rfl) (hd := dX9_bestNew_98) ?_
              refine mx_istoreE_n (i := 3) (ls' := [some (.ref a), some (.int (nI pn)), some (.int (nI qn)), some (.int (nI v)), some (.int (nI l)), some (.int (nI v)), some (.int (oI (cwA z pn qn v l)))]) (hi := rfl) (hd := dX9_bestNew_100) (hn := by decide) (hok := rfl) (hls := rfl) ?_
              refine mx_iload (i := 6) (hl := rfl) (hd := dX9_bestNew_101) ?_
              refine mx_top (y := nI c0) (hi0) ?_
              refine mx_istoreE (i := 4) (ls' := [some (.ref a), some (.int (nI pn)), some (.int (nI qn)), some (.int (nI v)), some (.int (nI c0)), some (.int (nI v)), some (.int (oI (cwA z pn qn v l)))]) (hd := dX9_bestNew_103) (hn := by decide) (hok := rfl) (hls := rfl) ?_
              refine mx_iincE (i := 5) (ls' := [some (.ref a), some (.int (nI pn)), some (.int (nI qn)), some (.int (nI v)), some (.int (nI c0)), some (.int (nI (v + 1))), some (.int (oI (cwA z pn qn v l)))]) 1 dX9_bestNew_105 rfl (by decide) (by decide) rfl rfl ?_
              refine mx_goto (tgt := 48) dX9_bestNew_108 (by decide) ?_
              refine mx_leS (ls' := [some (.ref a), some (.int (nI pn)), some (.int (nI qn)), some (.int (nI v)), some (.int (nI c0)), some (.int (nI (v + 1))), none]) ⟨rfl, rfl, rfl, rfl, rfl, rfl, trivial⟩ ?_
              exact ih (v + 1) (some v) c0 _ (by omega) (by omega) (by rw [bnL_2 hx c69 hc0, if_pos (by omega)]) n2 (hfr4.tr n3)
  refine mx_iconstN 0 dX9_bestNew_45 (by decide) ?_
  refine mx_istoreE (i := 5) (ls' := [some (.ref a), some (.int (nI pn)), some (.int (nI qn)), some (.int (oI none)), some (.int (nI 1512)), some (.int (nI 0)), none]) (hd := dX9_bestNew_46) (hn := by decide) (hok := rfl) (hls := rfl) ?_
  exact L48 _ 0 none 1512 _ (Nat.lt_succ_self _) (Nat.zero_le _) rfl hdr3 (bfr.rf a I3)
