/-! THE METHODS OF StepPaths: text -/
theorem i2c_ok {c : Int32} (h : 0 ≤ c.toInt ∧ c.toInt ≤ 255) : (c.toUInt32 % 65536).toInt32 = nI c.toInt.toNat := by
  have := nI_ic c.toInt.toNat (by omega)
  rw [mx_nn h.1] at this
  rw [mx_nn h.1]
  exact this
theorem cW.tx {G : mx_G} {I I' : mx_I} {a n : Nat} {z : Zs} {ch : Nat → Nat} (h : cW G I a z) (e : mx_fr I I' (a + 1) (a + 3)) (ht : txN I' (a + 1) n ch) : cP G I a ((n, ch), z.2) G I' := by
  obtain ⟨h1, h2, h3, h4, h5⟩ := h
  have ha := h1.2.1
  have f : cFr a G I I' := fun b q1 q2 => e b (by omega)
  exact ⟨⟨h1.k (mx_sm.rf G) (Nat.le_refl _) f, ht, h3.k ha (mx_sm.rf G) (Nat.le_refl _) f rfl (fun b q1 q2 => e b (by omega)), h4.k ha (mx_sm.rf G) (Nat.le_refl _) f (fun _ _ => rfl) (fun b q1 q2 => e b (by omega)), h5.k ha (mx_sm.rf G) (Nat.le_refl _) f (fun _ _ => rfl) (fun b q1 q2 => e b (by omega))⟩, mx_sm.rf G, Nat.le_refl _, f, rFr.rf a G⟩
def fl_append (z : Zs) (c : Int32) : Nat := if ¬ (0 ≤ c.toInt ∧ c.toInt ≤ 255) then 2 else if ¬ (zN z < 110) then 3 else 0
def nx_append (z : Zs) (c : Int32) : Zs := ((zN z + 1, upF (zT z) (zN z) c.toInt.toNat), z.2)

set_option maxHeartbeats 4000000 in
set_option maxRecDepth 100000 in
theorem ct_append (G : mx_G) (I : mx_I) (a : Nat) (z : Zs) (hW : cW G I a z) (c : Int32) : mx_CT yX9_append mX9_append 8 2 12 [.ref a, .int c] G I (fun rv Gz Iz => fl_append z c = 0 ∧ rv = some (.int (nI (zN z + 1))) ∧ cP G I a (nx_append z c) Gz Iz) (fun E Gz Iz => (fl_append z c) ≠ 0 ∧ E = exN (fl_append z c) ∧ cP G I a z Gz Iz) := by
  refine mx_start (k := 0) (by decide) rfl rfl (fun h => nomatch h) (Nat.le_of_ble_eq_true rfl) ?_
  show mx_V mX9_append mx_S0 8 2 12 0 [some (.ref a), some (.int c)] [] G I (fun rv Gz Iz => fl_append z c = 0 ∧ rv = some (.int (nI (zN z + 1))) ∧ cP G I a (nx_append z c) Gz Iz) (fun E Gz Iz => (fl_append z c) ≠ 0 ∧ E = exN (fl_append z c) ∧ cP G I a z Gz Iz)
  have hW0 := hW
  obtain ⟨⟨hSP, hsz, hpe⟩, hTx, hSt, hHi, hSl⟩ := hW
  have oSt : oST G (a + 37) := hSP.2.2.2.2.1.2
  obtain ⟨tg9, ⟨f0, oTx⟩, ⟨f1, oPt⟩, ⟨f2, oRd⟩, ⟨f3, -⟩, ⟨f4, oDr⟩, ⟨f5, oHi⟩, ⟨f6, gSl, lSl, ⟨rq0, oS0⟩, ⟨rq1, oS1⟩⟩, ⟨f7, gFi, lFi⟩, ⟨f8, oSe⟩, ⟨f9, oTr⟩, ⟨f10, oBp⟩⟩ := hSP
  have tg0 : mx_tg G (a + 1) = 17 := oTx.1
  have tg1 : mx_tg G (a + 3) = 12 := oPt.1
  have tg2 : mx_tg G (a + 8) = 13 := oRd.1
  have tg3 : mx_tg G (a + 37) = 16 := oSt.1
  have tg4 : mx_tg G (a + 42) = 16 := oDr.1
  have tg5 : mx_tg G (a + 47) = 11 := oHi.1
  have tg6 : mx_tg G (a + 131) = 15 := oSe.1
  have tg7 : mx_tg G (a + 136) = 15 := oTr.1
  have tg8 : mx_tg G (a + 141) = 10 := oBp.1
  obtain ⟨rT, tT, lT⟩ : mx_rf G (a + 1) 0 = a + 2 ∧ mx_tg G (a + 2) = 2 ∧ mx_ln G (a + 2) = 110 := oTx.2
  have oSt0 : oST G (a + 37) := oSt
  obtain ⟨-, ⟨rF, tF, lF⟩, ⟨rK, tK, lK⟩, ⟨rO, tO, lO⟩, ⟨rC, tC, lC⟩⟩ : mx_tg G (a + 37) = 16 ∧ (mx_rf G (a + 37) 2 = a + 38 ∧ mx_tg G (a + 38) = 1 ∧ mx_ln G (a + 38) = 25) ∧ (mx_rf G (a + 37) 3 = a + 39 ∧ mx_tg G (a + 39) = 1 ∧ mx_ln G (a + 39) = 25) ∧ (mx_rf G (a + 37) 4 = a + 40 ∧ mx_tg G (a + 40) = 1 ∧ mx_ln G (a + 40) = 25) ∧ (mx_rf G (a + 37) 5 = a + 41 ∧ mx_tg G (a + 41) = 1 ∧ mx_ln G (a + 41) = 25) := oSt
  have hSv : stN I (a + 37) (zG z) := hSt.1
  obtain ⟨⟨hP8, hN25, hvb⟩, hs0, hs1, hsF, hsK, hsT, hsC⟩ : stN I (a + 37) (zG z) := hSt.1
  have hN24 : gN (zG z) ≤ 24 := hSt.2.1.1
  have hTx0 := hTx
  obtain ⟨hn110, ht1, htc, htb⟩ : txN I (a + 1) (zN z) (zT z) := hTx
  have J37 : ∀ (_ : Unit), (0 ≤ c.toInt ∧ c.toInt ≤ 255) → mx_V mX9_append mx_S0 8 1 6 37 [some (.ref a), some (.int c)] [.int (mx_b (decide (zN z < 110)))] G I (fun rv Gz Iz => fl_append z c = 0 ∧ rv = some (.int (nI (zN z + 1))) ∧ cP G I a (nx_append z c) Gz Iz) (fun E Gz Iz => (fl_append z c) ≠ 0 ∧ E = exN (fl_append z c) ∧ cP G I a z Gz Iz) := by
    intro _ k2
    refine mx_iconstN 3 dX9_append_37 (by decide) ?_
    refine mx_callS (As := [.int (mx_b (decide (zN z < 110))), .int (nI 3)]) (rest := []) (b1 := 1) (b2 := 6) dX9_append_38 (ct_require G I (zN z < 110) 3 (by decide)) km_X9_require rfl k_338 k_339 rfl rfl (Nat.le_of_ble_eq_true rfl) (by decide) (fun E G9 I9 h9 => mx_xo rfl (by have hf : fl_append z c = 3 := (by unfold fl_append; rw [if_neg (fun q => q k2), if_pos h9.1]); show (fl_append z c) ≠ 0 ∧ E = exN (fl_append z c) ∧ cP G I a z G9 I9; rw [hf]; exact ⟨by decide, hW0.id.thw h9.2.2⟩)) (fun r1 G3 I2 h4 => ?_)
    obtain ⟨e0, e1, e2, e3⟩ := h4
    have e2 := e2.symm
    subst e1; subst e2; subst e3
    have k3 : zN z < 110 := e0.resolve_right (by decide)
    clear e0
    refine mx_aload_n (i := 0) (hi := rfl) (hl := rfl) (hd := dX9_append_41) ?_
    refine mx_getR (ci := 9) (k := 0) (r := (a + 1)) dX9_append_42 k_296 (by decide) rfl (by assumption) (by assumption) (by omega) ?_
    refine mx_getR (ci := 7) (k := 0) (r := (a + 2)) dX9_append_45 k_63 (by decide) rfl (by assumption) (by assumption) (by omega) ?_
    refine mx_aload_n (i := 0) (hi := rfl) (hl := rfl) (hd := dX9_append_48) ?_
    refine mx_getR (ci := 9) (k := 0) (r := (a + 1)) dX9_append_49 k_296 (by decide) rfl (by assumption) (by assumption) (by omega) ?_
    refine mx_getV (ci := 7) (k := 1) (nI (zN z)) dX9_append_52 k_66 (by decide) rfl (by assumption) ht1 ?_
    refine mx_iload_n (i := 1) (hi := rfl) (hl := rfl) (hd := dX9_append_55) ?_
    refine mx_i2c (hv := rfl) (hd := dX9_append_56) ?_
    refine mx_top (y := nI c.toInt.toNat) (i2c_ok k2) ?_
    refine mx_cast (zN z) dX9_append_57 (by assumption) ⟨rfl, by omega, by omega⟩ (nI_ch _ (by omega)) ?_
    refine mx_aload_n (i := 0) (hi := rfl) (hl := rfl) (hd := dX9_append_58) ?_
    refine mx_getR (ci := 9) (k := 0) (r := (a + 1)) dX9_append_59 k_296 (by decide) rfl (by assumption) (by assumption) (by omega) ?_
    refine mx_dup (hva := rfl) (hd := dX9_append_62) ?_
    refine mx_getV (ci := 7) (k := 1) (nI (zN z)) dX9_append_63 k_66 (by decide) rfl (by assumption) (by rw [mx_u_at, if_neg (by omega)]; exact ht1) ?_
    refine mx_iconstN 1 dX9_append_66 (by decide) ?_
    refine mx_iaddN dX9_append_67 ?_
    refine mx_putI (ci := 7) (k := 1) dX9_append_68 k_66 (by decide) rfl rfl rfl rfl (by assumption) ?_
    refine mx_aload_n (i := 0) (hi := rfl) (hl := rfl) (hd := dX9_append_71) ?_
    refine mx_getR (ci := 9) (k := 0) (r := (a + 1)) dX9_append_72 k_296 (by decide) rfl (by assumption) (by assumption) (by omega) ?_
    refine mx_getV (ci := 7) (k := 1) (nI (zN z + 1)) dX9_append_75 k_66 (by decide) rfl (by assumption) (by rw [mx_u_at, if_pos ⟨rfl, rfl⟩]) ?_
    exact mx_iret dX9_append_78 rfl rfl (⟨by unfold fl_append; rw [if_neg (fun q => q k2), if_neg (fun q => q k3)], rfl, hW0.tx (((mx_fr.rf I _ _).u (by omega)).u (by omega)) ⟨by omega, by rw [mx_u_at, if_pos ⟨rfl, rfl⟩], (htc.up (x := c.toInt.toNat)).o (by omega), fun i hi => by
      show (if i = zN z then _ else _) < 256
      split
      · omega
      · exact htb i (by omega)⟩⟩)
  have J16 : ∀ (_ : Unit), mx_V mX9_append mx_S0 8 2 12 16 [some (.ref a), some (.int c)] [.int (mx_b (decide (0 ≤ c.toInt ∧ c.toInt ≤ 255)))] G I (fun rv Gz Iz => fl_append z c = 0 ∧ rv = some (.int (nI (zN z + 1))) ∧ cP G I a (nx_append z c) Gz Iz) (fun E Gz Iz => (fl_append z c) ≠ 0 ∧ E = exN (fl_append z c) ∧ cP G I a z Gz Iz) := by
    intro _ 
    refine mx_iconstN 2 dX9_append_16 (by decide) ?_
    refine mx_callS (As := [.int (mx_b (decide (0 ≤ c.toInt ∧ c.toInt ≤ 255))), .int (nI 2)]) (rest := []) (b1 := 1) (b2 := 6) dX9_append_17 (ct_require G I (0 ≤ c.toInt ∧ c.toInt ≤ 255) 2 (by decide)) km_X9_require rfl k_338 k_339 rfl rfl (Nat.le_of_ble_eq_true rfl) (by decide) (fun E G9 I9 h9 => mx_xo rfl (by have hf : fl_append z c = 2 := (by unfold fl_append; rw [if_pos h9.1]); show (fl_append z c) ≠ 0 ∧ E = exN (fl_append z c) ∧ cP G I a z G9 I9; rw [hf]; exact ⟨by decide, hW0.id.thw h9.2.2⟩)) (fun r5 G7 I6 h8 => ?_)
    obtain ⟨e0, e1, e2, e3⟩ := h8
    have e2 := e2.symm
    subst e1; subst e2; subst e3
    have k2 : 0 ≤ c.toInt ∧ c.toInt ≤ 255 := e0.resolve_right (by decide)
    clear e0
    refine mx_aload_n (i := 0) (hi := rfl) (hl := rfl) (hd := dX9_append_20) ?_
    refine mx_getR (ci := 9) (k := 0) (r := (a + 1)) dX9_append_21 k_296 (by decide) rfl (by assumption) (by assumption) (by omega) ?_
    refine mx_getV (ci := 7) (k := 1) (nI (zN z)) dX9_append_24 k_66 (by decide) rfl (by assumption) ht1 ?_
    refine mx_bipushN 110 dX9_append_27 (by decide) ?_
    refine mx_cmpN_ge 36 dX9_append_29 (by decide) (by omega) (by omega) (fun c29 => ?_) (fun c29 => ?_)
    · skip
      refine mx_iconstN 0 dX9_append_36 (by decide) ?_
      refine mx_top (y := mx_b (decide (zN z < 110))) (mx_bF (by omega)) ?_
      exact J37 () k2
    · skip
      refine mx_iconstN 1 dX9_append_32 (by decide) ?_
      refine mx_goto (tgt := 37) dX9_append_33 (by decide) ?_
      refine mx_top (y := mx_b (decide (zN z < 110))) (mx_bT (by omega)) ?_
      exact J37 () k2
  refine mx_iload_n (i := 1) (hi := rfl) (hl := rfl) (hd := dX9_append_0) ?_
  refine mx_ifR_lt 15 dX9_append_1 (by decide) (fun c1 => ?_) (fun c1 => ?_)
  · skip
    refine mx_iconstN 0 dX9_append_15 (by decide) ?_
    refine mx_top (y := mx_b (decide (0 ≤ c.toInt ∧ c.toInt ≤ 255))) (mx_bF (by omega)) ?_
    exact J16 () 
  · skip
    refine mx_iload_n (i := 1) (hi := rfl) (hl := rfl) (hd := dX9_append_4) ?_
    refine mx_sipushN 255 dX9_append_5 (by decide) ?_
    refine mx_cmpRN_gt 15 dX9_append_8 (by decide) (by omega) (fun c8 => ?_) (fun c8 => ?_)
    · skip
      refine mx_iconstN 0 dX9_append_15 (by decide) ?_
      refine mx_top (y := mx_b (decide (0 ≤ c.toInt ∧ c.toInt ≤ 255))) (mx_bF (by omega)) ?_
      exact J16 () 
    · skip
      refine mx_iconstN 1 dX9_append_11 (by decide) ?_
      refine mx_goto (tgt := 16) dX9_append_12 (by decide) ?_
      refine mx_top (y := mx_b (decide (0 ≤ c.toInt ∧ c.toInt ≤ 255))) (mx_bT (by omega)) ?_
      exact J16 () 

theorem nI_tt {n : Nat} (h : n < 2 ^ 31) : (nI n).toInt.toNat = n := by rw [nI_toInt h]; rfl
theorem rdF_sz (ch : Nat → Nat) (n : Nat) : pSz (rdF ch n) = min n 40 ∧ pCh (rdF ch n) = ch := rdK_sz ch n (min n 40)
theorem rdF_0 (ch : Nat → Nat) : rdF ch 0 = pa0 ch := by
  have h : rdX ch 0 = (0, fun _ => (0, 0, false), fun _ => (0, 0, true), pa0 ch) := rfl
  have e : ∀ (i x y : Nat), (if x.testBit i = true then 0 ||| 0 else 0) = 0 := fun i x y => by split <;> rfl
  unfold rdF rdW
  rw [h]
  unfold pEnd pAllow pa0 rdO
  simp
theorem mx_in8 {p : Int32} {n : Nat} (h : 0 ≤ p.toInt ∧ p.toInt < (n : Int)) : ∃ q, q < n ∧ q < 2 ^ 31 ∧ p = nI q := mx_nat h
theorem cW.hi {G : mx_G} {I I' : mx_I} {a cnt : Nat} {z : Zs} {hi : Nat → Vl} (h : cW G I a z) (e : mx_fr I I' (a + 47) (a + 119)) (hh : cHi G I' a cnt hi) : cP G I a (z.1, z.2.1, (cnt, hi), z.2.2.2) G I' := by
  obtain ⟨h1, h2, h3, h4, h5⟩ := h
  have ha := h1.2.1
  have f : cFr a G I I' := fun b q1 q2 => e b (by omega)
  exact ⟨⟨h1.k (mx_sm.rf G) (Nat.le_refl _) f, h2.k (e _ (by omega)) (e _ (by omega)), h3.k ha (mx_sm.rf G) (Nat.le_refl _) f rfl (fun b q1 q2 => e b (by omega)), hh, h5.k ha (mx_sm.rf G) (Nat.le_refl _) f (fun _ _ => rfl) (fun b q1 q2 => e b (by omega))⟩, mx_sm.rf G, Nat.le_refl _, f, rFr.rf a G⟩
theorem cW.fg {G : mx_G} {I : mx_I} {a : Nat} {z : Zs} (h : cW G I a z) : cP G I a (z.1, z.2.1, (0, zH z), z.2.2.2) G (mx_u I (a + 47) 2 (nI 0)) := by
  refine h.hi ((mx_fr.rf I _ _).u (by omega)) ?_
  obtain ⟨h1, nx, h2, h3, h4, h5⟩ := h.2.2.2.1
  exact ⟨Nat.zero_le _, nx, h2, by rw [mx_u_at, if_neg (by omega)]; exact h3, by rw [mx_u_at, if_pos ⟨rfl, rfl⟩], fun j hj => absurd hj (Nat.not_lt_zero j)⟩
theorem cW.sl {G : mx_G} {I I' : mx_I} {a : Nat} {z : Zs} {fl : Nat → Bool} {kp : Nat → Vl} (h : cW G I a z) (e : mx_fr I I' (a + 120) (a + 131)) (hh : cSl G I' a fl kp) : cP G I a (z.1, z.2.1, z.2.2.1, fl, kp) G I' := by
  obtain ⟨h1, h2, h3, h4, h5⟩ := h
  have ha := h1.2.1
  have f : cFr a G I I' := fun b q1 q2 => e b (by omega)
  exact ⟨⟨h1.k (mx_sm.rf G) (Nat.le_refl _) f, h2.k (e _ (by omega)) (e _ (by omega)), h3.k ha (mx_sm.rf G) (Nat.le_refl _) f rfl (fun b q1 q2 => e b (by omega)), h4.k ha (mx_sm.rf G) (Nat.le_refl _) f (fun _ _ => rfl) (fun b q1 q2 => e b (by omega)), hh⟩, mx_sm.rf G, Nat.le_refl _, f, rFr.rf a G⟩
/-- the draft's pattern alone has changed, and its ints -/
theorem cW.dr {G : mx_G} {I I' : mx_I} {a r : Nat} {z : Zs} (h : cW G I a z) (e : mx_fr I I' (a + 42) (a + 47)) : cP G I a z (mx_uR G (a + 42) 6 r) I' := by
  have t : mx_tg G (a + 42) = 16 := h.1.1.2.2.2.2.2.1.2.1
  refine h.k ((mx_sm.rf G).u6 t) (Nat.le_refl _) (fun o q => by rw [mx_rf_uR, if_neg (by omega)]) (fun b q1 _ => e b (by omega))
/-- a state is copied into the state -/
theorem cW.cp {G : mx_G} {I I' : mx_I} {a r : Nat} {z : Zs} {x : Vl} (h : cW G I a z) (e : mx_fr I I' (a + 37) (a + 42)) (hv : stN I' (a + 37) x.1) (hk : vOK x) (hr : ptO G I a r x) : cP G I a (z.1, x, z.2.2) (mx_uR G (a + 37) 6 r) I' := by
  have t : mx_tg G (a + 37) = 16 := h.1.1.2.2.2.2.1.2.1
  have m : mx_sm G (mx_uR G (a + 37) 6 r) := (mx_sm.rf G).u6 t
  refine h.st m (Nat.le_refl _) (fun o q => by rw [mx_rf_uR, if_neg (by omega)]) (fun b q1 _ => e b (by omega)) ⟨hv, hk, ?_⟩
  rw [mx_rf_uR, if_pos ⟨rfl, rfl⟩]
  exact hr.k h.1.2.1 m (Nat.le_refl _) (fun b q1 _ => e b (by omega))
def an_err (z : Zs) (b : Bool) : Int32 := if b = true then oI (pErr (zT z) (zN z)) else oI (gErr (zT z) (zN z))
def fl_load (z : Zs) : Nat := if gErr (zT z) (zN z) = none then 0 else 3
def nx_load (z : Zs) : Zs := (z.1, (gtx (zT z) ((zN z - 2) / 4), 0, zT z), (0, zH z), fun _ => false, zK z)
theorem pErr_0 (ch : Nat → Nat) : pErr ch 0 = none := rfl
theorem vOK_0 {v : Gr} {ch : Nat → Nat} (h : gN v ≤ 24) : vOK (v, 0, ch) := ⟨h, Nat.zero_le _, pErr_0 ch, fun i hi => absurd hi (Nat.not_lt_zero i)⟩
theorem cW.load {G : mx_G} {I I' : mx_I} {a k : Nat} {z : Zs} {v : Gr} {ch : Nat → Nat} (h : cW G I a z) (h2 : 2 ≤ k) (hv24 : gN v ≤ 24) (hv : stN I' (a + 37) v) (e : mx_fr I I' (a + 37) (a + 37 + 5)) : cP G I a (z.1, (v, 0, ch), z.2.2) (mx_uR G (a + 37) 6 (a + 3)) I' := by
  have hp : ptO G I a (a + 3) (v, 0, ch) := ⟨Or.inl rfl, by have := h.1.2.1; omega, h.1.1.2.2.1.2, h.1.2.2 ch⟩
  exact h.cp (x := (v, 0, ch)) e hv (vOK_0 hv24) hp
theorem rgF_le (ch : Nat → Nat) (n : Nat) : ∀ (f i s : Nat), i + f ≤ n → rgF ch n f i = some s → s ≤ n
  | 0, i, s, h, e => by
    unfold rgF at e
    split at e
    · cases e; exact Nat.le_refl _
    · cases e
  | f + 1, i, s, h, e => by
    unfold rgF at e
    split at e
    · exact rgF_le ch n f (i + 1) s (by omega) e
    · cases e; omega
theorem gErr_le {ch : Nat → Nat} {n s : Nat} (h : gErr ch n = some s) : s ≤ n := rgF_le ch n n 0 s (by omega) h
theorem gErr_iff {ch : Nat → Nat} {n : Nat} (hn : n < 2 ^ 31) : oI (gErr ch n) = -9 ↔ gErr ch n = none := oI_iff (fun s hs => by
  have : s ≤ n := gErr_le hs
  omega)

set_option maxHeartbeats 4000000 in
set_option maxRecDepth 100000 in
theorem ct_clearText (G : mx_G) (I : mx_I) (a : Nat) (z : Zs) (hW : cW G I a z) : mx_CT yX9_clearText mX9_clearText 2 0 0 [.ref a] G I (fun rv Gz Iz => rv = some (.int (nI (zN z))) ∧ cP G I a ((0, zT z), z.2) Gz Iz) (fun _ _ _ => False) := by
  refine mx_start (k := 1) (by decide) rfl rfl (fun h => nomatch h) (Nat.le_of_ble_eq_true rfl) ?_
  show mx_V mX9_clearText mx_S0 2 0 0 0 [some (.ref a), none] [] G I (fun rv Gz Iz => rv = some (.int (nI (zN z))) ∧ cP G I a ((0, zT z), z.2) Gz Iz) (fun _ _ _ => False)
  have hW0 := hW
  obtain ⟨⟨hSP, hsz, hpe⟩, hTx, hSt, hHi, hSl⟩ := hW
  have oSt : oST G (a + 37) := hSP.2.2.2.2.1.2
  obtain ⟨tg9, ⟨f0, oTx⟩, ⟨f1, oPt⟩, ⟨f2, oRd⟩, ⟨f3, -⟩, ⟨f4, oDr⟩, ⟨f5, oHi⟩, ⟨f6, gSl, lSl, ⟨rq0, oS0⟩, ⟨rq1, oS1⟩⟩, ⟨f7, gFi, lFi⟩, ⟨f8, oSe⟩, ⟨f9, oTr⟩, ⟨f10, oBp⟩⟩ := hSP
  have tg0 : mx_tg G (a + 1) = 17 := oTx.1
  have tg1 : mx_tg G (a + 3) = 12 := oPt.1
  have tg2 : mx_tg G (a + 8) = 13 := oRd.1
  have tg3 : mx_tg G (a + 37) = 16 := oSt.1
  have tg4 : mx_tg G (a + 42) = 16 := oDr.1
  have tg5 : mx_tg G (a + 47) = 11 := oHi.1
  have tg6 : mx_tg G (a + 131) = 15 := oSe.1
  have tg7 : mx_tg G (a + 136) = 15 := oTr.1
  have tg8 : mx_tg G (a + 141) = 10 := oBp.1
  obtain ⟨rT, tT, lT⟩ : mx_rf G (a + 1) 0 = a + 2 ∧ mx_tg G (a + 2) = 2 ∧ mx_ln G (a + 2) = 110 := oTx.2
  have oSt0 : oST G (a + 37) := oSt
  obtain ⟨-, ⟨rF, tF, lF⟩, ⟨rK, tK, lK⟩, ⟨rO, tO, lO⟩, ⟨rC, tC, lC⟩⟩ : mx_tg G (a + 37) = 16 ∧ (mx_rf G (a + 37) 2 = a + 38 ∧ mx_tg G (a + 38) = 1 ∧ mx_ln G (a + 38) = 25) ∧ (mx_rf G (a + 37) 3 = a + 39 ∧ mx_tg G (a + 39) = 1 ∧ mx_ln G (a + 39) = 25) ∧ (mx_rf G (a + 37) 4 = a + 40 ∧ mx_tg G (a + 40) = 1 ∧ mx_ln G (a + 40) = 25) ∧ (mx_rf G (a + 37) 5 = a + 41 ∧ mx_tg G (a + 41) = 1 ∧ mx_ln G (a + 41) = 25) := oSt
  have hSv : stN I (a + 37) (zG z) := hSt.1
  obtain ⟨⟨hP8, hN25, hvb⟩, hs0, hs1, hsF, hsK, hsT, hsC⟩ : stN I (a + 37) (zG z) := hSt.1
  have hN24 : gN (zG z) ≤ 24 := hSt.2.1.1
  have hTx0 := hTx
  obtain ⟨hn110, ht1, htc, htb⟩ : txN I (a + 1) (zN z) (zT z) := hTx
  refine mx_aload_n (i := 0) (hi := rfl) (hl := rfl) (hd := dX9_clearText_0) ?_
  refine mx_getR (ci := 9) (k := 0) (r := (a + 1)) dX9_clearText_1 k_296 (by decide) rfl (by assumption) (by assumption) (by omega) ?_
  refine mx_getV (ci := 7) (k := 1) (nI (zN z)) dX9_clearText_4 k_66 (by decide) rfl (by assumption) ht1 ?_
  refine mx_istoreE_n (i := 1) (ls' := [some (.ref a), some (.int (nI (zN z)))]) (hi := rfl) (hd := dX9_clearText_7) (hn := by decide) (hok := rfl) (hls := rfl) ?_
  refine mx_aload_n (i := 0) (hi := rfl) (hl := rfl) (hd := dX9_clearText_8) ?_
  refine mx_getR (ci := 9) (k := 0) (r := (a + 1)) dX9_clearText_9 k_296 (by decide) rfl (by assumption) (by assumption) (by omega) ?_
  refine mx_iconstN 0 dX9_clearText_12 (by decide) ?_
  refine mx_putI (ci := 7) (k := 1) dX9_clearText_13 k_66 (by decide) rfl rfl rfl rfl (by assumption) ?_
  refine mx_iload_n (i := 1) (hi := rfl) (hl := rfl) (hd := dX9_clearText_16) ?_
  exact mx_iret dX9_clearText_17 rfl rfl (⟨rfl, hW0.tx ((mx_fr.rf I _ _).u (by omega)) ⟨Nat.zero_le _, by rw [mx_u_at, if_pos ⟨rfl, rfl⟩], fun i hi => absurd hi (Nat.not_lt_zero i), fun i hi => absurd hi (Nat.not_lt_zero i)⟩⟩)

set_option maxHeartbeats 4000000 in
set_option maxRecDepth 100000 in
theorem ct_errorPosition (G : mx_G) (I : mx_I) (a : Nat) (z : Zs) (hW : cW G I a z) (b : Bool) : mx_CT yX9_errorPosition mX9_errorPosition 4 0 0 [.ref a, .int (mx_b (decide (b = true)))] G I (fun rv Gz Iz => rv = some (.int (an_err z b)) ∧ cP G I a z Gz Iz) (fun _ _ _ => False) := by
  refine mx_start (k := 0) (by decide) rfl rfl (fun h => nomatch h) (Nat.le_of_ble_eq_true rfl) ?_
  show mx_V mX9_errorPosition mx_S0 4 0 0 0 [some (.ref a), some (.int (mx_b (decide (b = true))))] [] G I (fun rv Gz Iz => rv = some (.int (an_err z b)) ∧ cP G I a z Gz Iz) (fun _ _ _ => False)
  have hW0 := hW
  obtain ⟨⟨hSP, hsz, hpe⟩, hTx, hSt, hHi, hSl⟩ := hW
  have oSt : oST G (a + 37) := hSP.2.2.2.2.1.2
  obtain ⟨tg9, ⟨f0, oTx⟩, ⟨f1, oPt⟩, ⟨f2, oRd⟩, ⟨f3, -⟩, ⟨f4, oDr⟩, ⟨f5, oHi⟩, ⟨f6, gSl, lSl, ⟨rq0, oS0⟩, ⟨rq1, oS1⟩⟩, ⟨f7, gFi, lFi⟩, ⟨f8, oSe⟩, ⟨f9, oTr⟩, ⟨f10, oBp⟩⟩ := hSP
  have tg0 : mx_tg G (a + 1) = 17 := oTx.1
  have tg1 : mx_tg G (a + 3) = 12 := oPt.1
  have tg2 : mx_tg G (a + 8) = 13 := oRd.1
  have tg3 : mx_tg G (a + 37) = 16 := oSt.1
  have tg4 : mx_tg G (a + 42) = 16 := oDr.1
  have tg5 : mx_tg G (a + 47) = 11 := oHi.1
  have tg6 : mx_tg G (a + 131) = 15 := oSe.1
  have tg7 : mx_tg G (a + 136) = 15 := oTr.1
  have tg8 : mx_tg G (a + 141) = 10 := oBp.1
  obtain ⟨rT, tT, lT⟩ : mx_rf G (a + 1) 0 = a + 2 ∧ mx_tg G (a + 2) = 2 ∧ mx_ln G (a + 2) = 110 := oTx.2
  have oSt0 : oST G (a + 37) := oSt
  obtain ⟨-, ⟨rF, tF, lF⟩, ⟨rK, tK, lK⟩, ⟨rO, tO, lO⟩, ⟨rC, tC, lC⟩⟩ : mx_tg G (a + 37) = 16 ∧ (mx_rf G (a + 37) 2 = a + 38 ∧ mx_tg G (a + 38) = 1 ∧ mx_ln G (a + 38) = 25) ∧ (mx_rf G (a + 37) 3 = a + 39 ∧ mx_tg G (a + 39) = 1 ∧ mx_ln G (a + 39) = 25) ∧ (mx_rf G (a + 37) 4 = a + 40 ∧ mx_tg G (a + 40) = 1 ∧ mx_ln G (a + 40) = 25) ∧ (mx_rf G (a + 37) 5 = a + 41 ∧ mx_tg G (a + 41) = 1 ∧ mx_ln G (a + 41) = 25) := oSt
  have hSv : stN I (a + 37) (zG z) := hSt.1
  obtain ⟨⟨hP8, hN25, hvb⟩, hs0, hs1, hsF, hsK, hsT, hsC⟩ : stN I (a + 37) (zG z) := hSt.1
  have hN24 : gN (zG z) ≤ 24 := hSt.2.1.1
  have hTx0 := hTx
  obtain ⟨hn110, ht1, htc, htb⟩ : txN I (a + 1) (zN z) (zT z) := hTx
  refine mx_iload_n (i := 1) (hi := rfl) (hl := rfl) (hd := dX9_errorPosition_0) ?_
  refine mx_ifB_eq 14 dX9_errorPosition_1 (by decide) (fun c1 => ?_) (fun c1 => ?_)
  · skip
    refine mx_aload_n (i := 0) (hi := rfl) (hl := rfl) (hd := dX9_errorPosition_14) ?_
    refine mx_getR (ci := 9) (k := 0) (r := (a + 1)) dX9_errorPosition_15 k_296 (by decide) rfl (by assumption) (by assumption) (by omega) ?_
    refine mx_aload_n (i := 0) (hi := rfl) (hl := rfl) (hd := dX9_errorPosition_18) ?_
    refine mx_getR (ci := 9) (k := 4) (r := (a + 42)) dX9_errorPosition_19 k_300 (by decide) rfl (by assumption) (by assumption) (by omega) ?_
    refine mx_aload_n (i := 0) (hi := rfl) (hl := rfl) (hd := dX9_errorPosition_22) ?_
    refine mx_getR (ci := 9) (k := 1) (r := (a + 3)) dX9_errorPosition_23 k_297 (by decide) rfl (by assumption) (by assumption) (by omega) ?_
    refine mx_callV (ci := 7) (As := [.ref (a + 42), .ref (a + 3)]) (rest := []) (b1 := 0) (b2 := 0) dX9_errorPosition_26 (ct_readGraph G I (a + 1) (zN z) (zT z) oTx hTx0 (a + 42) (a + 3) oDr (by omega) tg1) km_X7_readGraph rfl k_683 k_684 k_685 (by assumption) rfl rfl (Nat.le_of_ble_eq_true rfl) (by decide) (fun _ _ _ q => q.elim) (fun r1 G1 I1 h2 => ?_)
    obtain ⟨e1, e2, hg1, hg2⟩ := h2
    subst e1; subst e2
    have hP1 := hW0.dr (r := a + 3) hg2
    exact mx_iret dX9_errorPosition_29 rfl rfl (⟨by unfold an_err; rw [if_neg c1], hP1⟩)
  · skip
    refine mx_aload_n (i := 0) (hi := rfl) (hl := rfl) (hd := dX9_errorPosition_4) ?_
    refine mx_getR (ci := 9) (k := 0) (r := (a + 1)) dX9_errorPosition_5 k_296 (by decide) rfl (by assumption) (by assumption) (by omega) ?_
    refine mx_callVp (ci := 7) (As := []) (rest := []) dX9_errorPosition_8 (ct_patternError G I (a + 1) (zN z) (zT z) oTx hTx0) km_X7_patternError rfl k_805 k_806 k_807 (by assumption) rfl rfl (Nat.le_of_ble_eq_true rfl) (by decide) ?_
    refine mx_goto (tgt := 29) dX9_errorPosition_11 (by decide) ?_
    exact mx_iret dX9_errorPosition_29 rfl rfl (⟨by unfold an_err; rw [if_pos c1], hW0.id⟩)

set_option maxHeartbeats 200000 in
set_option maxRecDepth 100000 in
theorem ct_load (G : mx_G) (I : mx_I) (a : Nat) (z : Zs) (hW : cW G I a z) : mx_CT yX9_load mX9_load 8 1 6 [.ref a] G I (fun rv Gz Iz => fl_load z = 0 ∧ rv = some (.int (nI (gN (zG (nx_load z))))) ∧ cP G I a (nx_load z) Gz Iz) (fun E Gz Iz => (fl_load z) ≠ 0 ∧ E = exN (fl_load z) ∧ cP G I a z Gz Iz) := by
  refine mx_start (k := 1) (by decide) rfl rfl (fun h => nomatch h) (Nat.le_of_ble_eq_true rfl) ?_
  show mx_V mX9_load mx_S0 8 1 6 0 [some (.ref a), none] [] G I (fun rv Gz Iz => fl_load z = 0 ∧ rv = some (.int (nI (gN (zG (nx_load z))))) ∧ cP G I a (nx_load z) Gz Iz) (fun E Gz Iz => (fl_load z) ≠ 0 ∧ E = exN (fl_load z) ∧ cP G I a z Gz Iz)
  have hW0 := hW
  obtain ⟨⟨hSP, hsz, hpe⟩, hTx, hSt, hHi, hSl⟩ := hW
  have oSt : oST G (a + 37) := hSP.2.2.2.2.1.2
  obtain ⟨tg9, ⟨f0, oTx⟩, ⟨f1, oPt⟩, ⟨f2, oRd⟩, ⟨f3, -⟩, ⟨f4, oDr⟩, ⟨f5, oHi⟩, ⟨f6, gSl, lSl, ⟨rq0, oS0⟩, ⟨rq1, oS1⟩⟩, ⟨f7, gFi, lFi⟩, ⟨f8, oSe⟩, ⟨f9, oTr⟩, ⟨f10, oBp⟩⟩ := hSP
  have tg0 : mx_tg G (a + 1) = 17 := oTx.1
  have tg1 : mx_tg G (a + 3) = 12 := oPt.1
  have tg2 : mx_tg G (a + 8) = 13 := oRd.1
  have tg3 : mx_tg G (a + 37) = 16 := oSt.1
  have tg4 : mx_tg G (a + 42) = 16 := oDr.1
  have tg5 : mx_tg G (a + 47) = 11 := oHi.1
  have tg6 : mx_tg G (a + 131) = 15 := oSe.1
  have tg7 : mx_tg G (a + 136) = 15 := oTr.1
  have tg8 : mx_tg G (a + 141) = 10 := oBp.1
  obtain ⟨rT, tT, lT⟩ : mx_rf G (a + 1) 0 = a + 2 ∧ mx_tg G (a + 2) = 2 ∧ mx_ln G (a + 2) = 110 := oTx.2
  have oSt0 : oST G (a + 37) := oSt
  obtain ⟨-, ⟨rF, tF, lF⟩, ⟨rK, tK, lK⟩, ⟨rO, tO, lO⟩, ⟨rC, tC, lC⟩⟩ : mx_tg G (a + 37) = 16 ∧ (mx_rf G (a + 37) 2 = a + 38 ∧ mx_tg G (a + 38) = 1 ∧ mx_ln G (a + 38) = 25) ∧ (mx_rf G (a + 37) 3 = a + 39 ∧ mx_tg G (a + 39) = 1 ∧ mx_ln G (a + 39) = 25) ∧ (mx_rf G (a + 37) 4 = a + 40 ∧ mx_tg G (a + 40) = 1 ∧ mx_ln G (a + 40) = 25) ∧ (mx_rf G (a + 37) 5 = a + 41 ∧ mx_tg G (a + 41) = 1 ∧ mx_ln G (a + 41) = 25) := oSt
  have hSv : stN I (a + 37) (zG z) := hSt.1
  obtain ⟨⟨hP8, hN25, hvb⟩, hs0, hs1, hsF, hsK, hsT, hsC⟩ : stN I (a + 37) (zG z) := hSt.1
  have hN24 : gN (zG z) ≤ 24 := hSt.2.1.1
  have hTx0 := hTx
  obtain ⟨hn110, ht1, htc, htb⟩ : txN I (a + 1) (zN z) (zT z) := hTx
  refine mx_aload_n (i := 0) (hi := rfl) (hl := rfl) (hd := dX9_load_0) ?_
  refine mx_getR (ci := 9) (k := 0) (r := (a + 1)) dX9_load_1 k_296 (by decide) rfl (by assumption) (by assumption) (by omega) ?_
  refine mx_aload_n (i := 0) (hi := rfl) (hl := rfl) (hd := dX9_load_4) ?_
  refine mx_getR (ci := 9) (k := 4) (r := (a + 42)) dX9_load_5 k_300 (by decide) rfl (by assumption) (by assumption) (by omega) ?_
  refine mx_aload_n (i := 0) (hi := rfl) (hl := rfl) (hd := dX9_load_8) ?_
  refine mx_getR (ci := 9) (k := 1) (r := (a + 3)) dX9_load_9 k_297 (by decide) rfl (by assumption) (by assumption) (by omega) ?_
  refine mx_callV (ci := 7) (As := [.ref (a + 42), .ref (a + 3)]) (rest := []) (b1 := 0) (b2 := 0) dX9_load_12 (ct_readGraph G I (a + 1) (zN z) (zT z) oTx hTx0 (a + 42) (a + 3) oDr (by omega) tg1) km_X7_readGraph rfl k_683 k_684 k_685 (by assumption) rfl rfl (Nat.le_of_ble_eq_true rfl) (by decide) (fun _ _ _ q => q.elim) (fun r1 G1 I1 h2 => ?_)
  obtain ⟨e1, e2, hg1, hg2⟩ := h2
  subst e1; subst e2
  have hP1 := hW0.dr (r := a + 3) hg2
  refine mx_bipush (v := (-9)) (by decide) dX9_load_15 ?_
  refine mx_icmp_ne (tgt := 24) dX9_load_17 (by decide) (fun c17 => ?_) (fun c17 => ?_)
  · skip
    refine mx_iconstN 0 dX9_load_24 (by decide) ?_
    refine mx_top (y := mx_b (decide (gErr (zT z) (zN z) = none))) (mx_bF (fun q => c17 ((gErr_iff (by omega)).mpr q))) ?_
    refine mx_iconstN 3 dX9_load_25 (by decide) ?_
    refine mx_callS (As := [.int (mx_b (decide (gErr (zT z) (zN z) = none))), .int (nI 3)]) (rest := []) (b1 := 1) (b2 := 6) dX9_load_26 (ct_require (mx_uR G (a + 42) 6 (a + 3)) I1 (gErr (zT z) (zN z) = none) 3 (by decide)) km_X9_require rfl k_338 k_339 rfl rfl (Nat.le_of_ble_eq_true rfl) (by decide) (fun E G9 I9 h9 => mx_xo rfl (by have hf : fl_load z = 3 := (by unfold fl_load; rw [if_neg h9.1]); show (fl_load z) ≠ 0 ∧ E = exN (fl_load z) ∧ cP G I a z G9 I9; rw [hf]; exact ⟨by decide, hP1.thw h9.2.2⟩)) (fun r3 G5 I4 h6 => ?_)
    obtain ⟨e0, e1, e2, e3⟩ := h6
    have e2 := e2.symm
    subst e1; subst e2; subst e3
    have k3 : gErr (zT z) (zN z) = none := e0.resolve_right (by decide)
    clear e0
    obtain ⟨hg3, hn2, hg6⟩ := hg1 k3
    have oSt1 := hP1.1.1.1.2.2.2.2.1.2
    have oDr1 := hP1.1.1.1.2.2.2.2.2.1.2
    have oPt1 := hP1.1.1.1.2.2.1.2
    have tg9 : mx_tg (mx_uR G (a + 42) 6 (a + 3)) a = 19 := tg9
    have tg3 : mx_tg (mx_uR G (a + 42) 6 (a + 3)) (a + 37) = 16 := tg3
    have tg4 : mx_tg (mx_uR G (a + 42) 6 (a + 3)) (a + 42) = 16 := tg4
    have tg1 : mx_tg (mx_uR G (a + 42) 6 (a + 3)) (a + 3) = 12 := tg1
    refine mx_aload_n (i := 0) (hi := rfl) (hl := rfl) (hd := dX9_load_29) ?_
    refine mx_getR (ci := 9) (k := 3) (r := (a + 37)) dX9_load_30 k_299 (by decide) rfl (by assumption) (hP1.1.1.1.2.2.2.2.1.1) (by omega) ?_
    refine mx_aload_n (i := 0) (hi := rfl) (hl := rfl) (hd := dX9_load_33) ?_
    refine mx_getR (ci := 9) (k := 4) (r := (a + 42)) dX9_load_34 k_300 (by decide) rfl (by assumption) (hP1.1.1.1.2.2.2.2.2.1.1) (by omega) ?_
    refine mx_callV (ci := 6) (As := [.ref (a + 42)]) (rest := []) (b1 := 0) (b2 := 0) dX9_load_37 (ct_copyFrom (mx_uR G (a + 42) 6 (a + 3)) I1 (a + 37) (a + 42) (a + 3) (gtx (zT z) ((zN z - 2) / 4)) oSt1 oDr1 hg3 (by omega) (by rw [mx_rf_uR, if_pos ⟨rfl, rfl⟩]) tg1) km_X6_copyFrom rfl k_448 k_449 k_450 (by assumption) rfl rfl (Nat.le_of_ble_eq_true rfl) (by decide) (fun _ _ _ q => q.elim) (fun r7 G2 I2 h8 => ?_)
    obtain ⟨e1, e2, hg4, hg5⟩ := h8
    subst e1; subst e2
    have hP2 := hP1.1.load (ch := zT z) hn2 hg6 hg4 hg5
    have hP3 := hP2.1.fg
    have oHi2 := hP2.1.1.1.2.2.2.2.2.2.1.2
    have tg9 : mx_tg (mx_uR (mx_uR G (a + 42) 6 (a + 3)) (a + 37) 6 (a + 3)) a = 19 := tg9
    have gFi : mx_tg (mx_uR (mx_uR G (a + 42) 6 (a + 3)) (a + 37) 6 (a + 3)) (a + 130) = 3 := gFi
    have lFi : mx_ln (mx_uR (mx_uR G (a + 42) 6 (a + 3)) (a + 37) 6 (a + 3)) (a + 130) = 2 := lFi
    have f3 : mx_rf (mx_uR (mx_uR G (a + 42) 6 (a + 3)) (a + 37) 6 (a + 3)) a 3 = a + 37 := hP2.1.1.1.2.2.2.2.1.1
    have f5 : mx_rf (mx_uR (mx_uR G (a + 42) 6 (a + 3)) (a + 37) 6 (a + 3)) a 5 = a + 47 := hP2.1.1.1.2.2.2.2.2.2.1.1
    have f7 : mx_rf (mx_uR (mx_uR G (a + 42) 6 (a + 3)) (a + 37) 6 (a + 3)) a 7 = a + 130 := hP2.1.1.1.2.2.2.2.2.2.2.2.1.1
    have tg5 : mx_tg (mx_uR (mx_uR G (a + 42) 6 (a + 3)) (a + 37) 6 (a + 3)) (a + 47) = 11 := oHi2.1
    have tg3 : mx_tg (mx_uR (mx_uR G (a + 42) 6 (a + 3)) (a + 37) 6 (a + 3)) (a + 37) = 16 := tg3
    refine mx_aload_n (i := 0) (hi := rfl) (hl := rfl) (hd := dX9_load_40) ?_
    refine mx_getR (ci := 9) (k := 5) (r := (a + 47)) dX9_load_41 k_301 (by decide) rfl (by assumption) (by assumption) (by omega) ?_
    refine mx_callVi (ci := 1) (As := []) (rest := []) dX9_load_44 (ct_forgetAll (mx_uR (mx_uR G (a + 42) 6 (a + 3)) (a + 37) 6 (a + 3)) I2 (a + 47) oHi2) km_X1_forgetAll rfl k_699 k_700 k_701 (by assumption) rfl rfl (Nat.le_of_ble_eq_true rfl) (by decide) (fun r9 I3 h10 => ?_)
    obtain ⟨e1, e2⟩ := h10
    subst e1; subst e2
    refine mx_iconstN 0 dX9_load_47 (by decide) ?_
    refine mx_istoreE_n (i := 1) (ls' := [some (.ref a), some (.int (nI 0))]) (hi := rfl) (hd := dX9_load_48) (hn := by decide) (hok := rfl) (hls := rfl) ?_
    refine mx_iload_n (i := 1) (hi := rfl) (hl := rfl) (hd := dX9_load_49) ?_
    refine mx_iconstN 2 dX9_load_50 (by decide) ?_
    refine mx_cmpN_ge 67 dX9_load_51 (by decide) (by omega) (by omega) (fun c51 => ?_) (fun c51 => ?_)
    · skip
      exact absurd c51 (by decide)
    · skip
      refine mx_aload_n (i := 0) (hi := rfl) (hl := rfl) (hd := dX9_load_54) ?_
      refine mx_getR (ci := 9) (k := 7) (r := (a + 130)) dX9_load_55 k_303 (by decide) rfl (by assumption) (by assumption) (by omega) ?_
      refine mx_iload_n (i := 1) (hi := rfl) (hl := rfl) (hd := dX9_load_58) ?_
      refine mx_iconstN 0 dX9_load_59 (by decide) ?_
      refine mx_zast 0 dX9_load_60 (by assumption) ⟨rfl, by rw [lFi]; decide, by rw [lFi]; decide⟩ (by decide) ?_
      refine mx_iincE (i := 1) (ls' := [some (.ref a), some (.int (nI 1))]) 1 dX9_load_61 rfl (by decide) (by decide) rfl rfl ?_
      refine mx_goto (tgt := 49) dX9_load_64 (by decide) ?_
      refine mx_iload_n (i := 1) (hi := rfl) (hl := rfl) (hd := dX9_load_49) ?_
      refine mx_iconstN 2 dX9_load_50 (by decide) ?_
      refine mx_cmpN_ge 67 dX9_load_51 (by decide) (by omega) (by omega) (fun c51 => ?_) (fun c51 => ?_)
      · skip
        exact absurd c51 (by decide)
      · skip
        refine mx_aload_n (i := 0) (hi := rfl) (hl := rfl) (hd := dX9_load_54) ?_
        refine mx_getR (ci := 9) (k := 7) (r := (a + 130)) dX9_load_55 k_303 (by decide) rfl (by assumption) (by assumption) (by omega) ?_
        refine mx_iload_n (i := 1) (hi := rfl) (hl := rfl) (hd := dX9_load_58) ?_
        refine mx_iconstN 0 dX9_load_59 (by decide) ?_
        refine mx_zast 1 dX9_load_60 (by assumption) ⟨rfl, by rw [lFi]; decide, by rw [lFi]; decide⟩ (by decide) ?_
        refine mx_iincE (i := 1) (ls' := [some (.ref a), some (.int (nI 2))]) 1 dX9_load_61 rfl (by decide) (by decide) rfl rfl ?_
        refine mx_goto (tgt := 49) dX9_load_64 (by decide) ?_
        refine mx_iload_n (i := 1) (hi := rfl) (hl := rfl) (hd := dX9_load_49) ?_
        refine mx_iconstN 2 dX9_load_50 (by decide) ?_
        refine mx_cmpN_ge 67 dX9_load_51 (by decide) (by omega) (by omega) (fun c51 => ?_) (fun c51 => ?_)
        · skip
          refine mx_aload_n (i := 0) (hi := rfl) (hl := rfl) (hd := dX9_load_67) ?_
          refine mx_getR (ci := 9) (k := 3) (r := (a + 37)) dX9_load_68 k_299 (by decide) rfl (by assumption) (by assumption) (by omega) ?_
          refine mx_getV (ci := 6) (k := 1) (nI (gN (gtx (zT z) ((zN z - 2) / 4)))) dX9_load_71 k_170 (by decide) rfl (by assumption) (by rw [mx_u_at, if_neg (by omega), mx_u_at, if_neg (by omega)]; exact (by rw [mx_u_at, if_neg (by omega)]; exact hg4.2.2.1)) ?_
          exact mx_iret dX9_load_74 rfl rfl (⟨by unfold fl_load; rw [if_pos k3], rfl, hP1.tr (hP2.tr (hP3.tr (hP3.1.sl (fl := fun _ => false) (kp := zK z) (((mx_fr.rf _ _ _).u (by omega)).u (by omega)) (fun s hs => ⟨(by rw [mx_u_at, mx_u_at]; rcases (show s = 0 ∨ s = 1 by omega) with rfl | rfl <;> simp <;> rfl), fun q => Bool.noConfusion q⟩))))⟩)
        · skip
          exact absurd c51 (by decide)
  · skip
    refine mx_iconstN 1 dX9_load_20 (by decide) ?_
    refine mx_goto (tgt := 25) dX9_load_21 (by decide) ?_
    refine mx_top (y := mx_b (decide (gErr (zT z) (zN z) = none))) (mx_bT ((gErr_iff (by omega)).mp c17)) ?_
    refine mx_iconstN 3 dX9_load_25 (by decide) ?_
    refine mx_callS (As := [.int (mx_b (decide (gErr (zT z) (zN z) = none))), .int (nI 3)]) (rest := []) (b1 := 1) (b2 := 6) dX9_load_26 (ct_require (mx_uR G (a + 42) 6 (a + 3)) I1 (gErr (zT z) (zN z) = none) 3 (by decide)) km_X9_require rfl k_338 k_339 rfl rfl (Nat.le_of_ble_eq_true rfl) (by decide) (fun E G9 I9 h9 => mx_xo rfl (by have hf : fl_load z = 3 := (by unfold fl_load; rw [if_neg h9.1]); show (fl_load z) ≠ 0 ∧ E = exN (fl_load z) ∧ cP G I a z G9 I9; rw [hf]; exact ⟨by decide, hP1.thw h9.2.2⟩)) (fun r11 G13 I12 h14 => ?_)
    obtain ⟨e0, e1, e2, e3⟩ := h14
    have e2 := e2.symm
    subst e1; subst e2; subst e3
    have k3 : gErr (zT z) (zN z) = none := e0.resolve_right (by decide)
    clear e0
    obtain ⟨hg3, hn2, hg6⟩ := hg1 k3
    have oSt1 := hP1.1.1.1.2.2.2.2.1.2
    have oDr1 := hP1.1.1.1.2.2.2.2.2.1.2
    have oPt1 := hP1.1.1.1.2.2.1.2
    have tg9 : mx_tg (mx_uR G (a + 42) 6 (a + 3)) a = 19 := tg9
    have tg3 : mx_tg (mx_uR G (a + 42) 6 (a + 3)) (a + 37) = 16 := tg3
    have tg4 : mx_tg (mx_uR G (a + 42) 6 (a + 3)) (a + 42) = 16 := tg4
    have tg1 : mx_tg (mx_uR G (a + 42) 6 (a + 3)) (a + 3) = 12 := tg1
    refine mx_aload_n (i := 0) (hi := rfl) (hl := rfl) (hd := dX9_load_29) ?_
    refine mx_getR (ci := 9) (k := 3) (r := (a + 37)) dX9_load_30 k_299 (by decide) rfl (by assumption) (hP1.1.1.1.2.2.2.2.1.1) (by omega) ?_
    refine mx_aload_n (i := 0) (hi := rfl) (hl := rfl) (hd := dX9_load_33) ?_
    refine mx_getR (ci := 9) (k := 4) (r := (a + 42)) dX9_load_34 k_300 (by decide) rfl (by assumption) (hP1.1.1.1.2.2.2.2.2.1.1) (by omega) ?_
    refine mx_callV (ci := 6) (As := [.ref (a + 42)]) (rest := []) (b1 := 0) (b2 := 0) dX9_load_37 (ct_copyFrom (mx_uR G (a + 42) 6 (a + 3)) I1 (a + 37) (a + 42) (a + 3) (gtx (zT z) ((zN z - 2) / 4)) oSt1 oDr1 hg3 (by omega) (by rw [mx_rf_uR, if_pos ⟨rfl, rfl⟩]) tg1) km_X6_copyFrom rfl k_448 k_449 k_450 (by assumption) rfl rfl (Nat.le_of_ble_eq_true rfl) (by decide) (fun _ _ _ q => q.elim) (fun r15 G2 I2 h16 => ?_)
    obtain ⟨e1, e2, hg4, hg5⟩ := h16
    subst e1; subst e2
    have hP2 := hP1.1.load (ch := zT z) hn2 hg6 hg4 hg5
    have hP3 := hP2.1.fg
    have oHi2 := hP2.1.1.1.2.2.2.2.2.2.1.2
    have tg9 : mx_tg (mx_uR (mx_uR G (a + 42) 6 (a + 3)) (a + 37) 6 (a + 3)) a = 19 := tg9
    have gFi : mx_tg (mx_uR (mx_uR G (a + 42) 6 (a + 3)) (a + 37) 6 (a + 3)) (a + 130) = 3 := gFi
    have lFi : mx_ln (mx_uR (mx_uR G (a + 42) 6 (a + 3)) (a + 37) 6 (a + 3)) (a + 130) = 2 := lFi
    have f3 : mx_rf (mx_uR (mx_uR G (a + 42) 6 (a + 3)) (a + 37) 6 (a + 3)) a 3 = a + 37 := hP2.1.1.1.2.2.2.2.1.1
    have f5 : mx_rf (mx_uR (mx_uR G (a + 42) 6 (a + 3)) (a + 37) 6 (a + 3)) a 5 = a + 47 := hP2.1.1.1.2.2.2.2.2.2.1.1
    have f7 : mx_rf (mx_uR (mx_uR G (a + 42) 6 (a + 3)) (a + 37) 6 (a + 3)) a 7 = a + 130 := hP2.1.1.1.2.2.2.2.2.2.2.2.1.1
    have tg5 : mx_tg (mx_uR (mx_uR G (a + 42) 6 (a + 3)) (a + 37) 6 (a + 3)) (a + 47) = 11 := oHi2.1
    have tg3 : mx_tg (mx_uR (mx_uR G (a + 42) 6 (a + 3)) (a + 37) 6 (a + 3)) (a + 37) = 16 := tg3
    refine mx_aload_n (i := 0) (hi := rfl) (hl := rfl) (hd := dX9_load_40) ?_
    refine mx_getR (ci := 9) (k := 5) (r := (a + 47)) dX9_load_41 k_301 (by decide) rfl (by assumption) (by assumption) (by omega) ?_
    refine mx_callVi (ci := 1) (As := []) (rest := []) dX9_load_44 (ct_forgetAll (mx_uR (mx_uR G (a + 42) 6 (a + 3)) (a + 37) 6 (a + 3)) I2 (a + 47) oHi2) km_X1_forgetAll rfl k_699 k_700 k_701 (by assumption) rfl rfl (Nat.le_of_ble_eq_true rfl) (by decide) (fun r17 I3 h18 => ?_)
    obtain ⟨e1, e2⟩ := h18
    subst e1; subst e2
    refine mx_iconstN 0 dX9_load_47 (by decide) ?_
    refine mx_istoreE_n (i := 1) (ls' := [some (.ref a), some (.int (nI 0))]) (hi := rfl) (hd := dX9_load_48) (hn := by decide) (hok := rfl) (hls := rfl) ?_
    refine mx_iload_n (i := 1) (hi := rfl) (hl := rfl) (hd := dX9_load_49) ?_
    refine mx_iconstN 2 dX9_load_50 (by decide) ?_
    refine mx_cmpN_ge 67 dX9_load_51 (by decide) (by omega) (by omega) (fun c51 => ?_) (fun c51 => ?_)
    · skip
      exact absurd c51 (by decide)
    · skip
      refine mx_aload_n (i := 0) (hi := rfl) (hl := rfl) (hd := dX9_load_54) ?_
      refine mx_getR (ci := 9) (k := 7) (r := (a + 130)) dX9_load_55 k_303 (by decide) rfl (by assumption) (by assumption) (by omega) ?_
      refine mx_iload_n (i := 1) (hi := rfl) (hl := rfl) (hd := dX9_load_58) ?_
      refine mx_iconstN 0 dX9_load_59 (by decide) ?_
      refine mx_zast 0 dX9_load_60 (by assumption) ⟨rfl, by rw [lFi]; decide, by rw [lFi]; decide⟩ (by decide) ?_
      refine mx_iincE (i := 1) (ls' := [some (.ref a), some (.int (nI 1))]) 1 dX9_load_61 rfl (by decide) (by decide) rfl rfl ?_
      refine mx_goto (tgt := 49) dX9_load_64 (by decide) ?_
      refine mx_iload_n (i := 1) (hi := rfl) (hl := rfl) (hd := dX9_load_49) ?_
      refine mx_iconstN 2 dX9_load_50 (by decide) ?_
      refine mx_cmpN_ge 67 dX9_load_51 (by decide) (by omega) (by omega) (fun c51 => ?_) (fun c51 => ?_)
      · skip
        exact absurd c51 (by decide)
      · skip
        refine mx_aload_n (i := 0) (hi := rfl) (hl := rfl) (hd := dX9_load_54) ?_
        refine mx_getR (ci := 9) (k := 7) (r := (a + 130)) dX9_load_55 k_303 (by decide) rfl (by assumption) (by assumption) (by omega) ?_
        refine mx_iload_n (i := 1) (hi := rfl) (hl := rfl) (hd := dX9_load_58) ?_
        refine mx_iconstN 0 dX9_load_59 (by decide) ?_
        refine mx_zast 1 dX9_load_60 (by assumption) ⟨rfl, by rw [lFi]; decide, by rw [lFi]; decide⟩ (by decide) ?_
        refine mx_iincE (i := 1) (ls' := [some (.ref a), some (.int (nI 2))]) 1 dX9_load_61 rfl (by decide) (by decide) rfl rfl ?_
        refine mx_goto (tgt := 49) dX9_load_64 (by decide) ?_
        refine mx_iload_n (i := 1) (hi := rfl) (hl := rfl) (hd := dX9_load_49) ?_
        refine mx_iconstN 2 dX9_load_50 (by decide) ?_
        refine mx_cmpN_ge 67 dX9_load_51 (by decide) (by omega) (by omega) (fun c51 => ?_) (fun c51 => ?_)
        · skip
          refine mx_aload_n (i := 0) (hi := rfl) (hl := rfl) (hd := dX9_load_67) ?_
          refine mx_getR (ci := 9) (k := 3) (r := (a + 37)) dX9_load_68 k_299 (by decide) rfl (by assumption) (by assumption) (by omega) ?_
          refine mx_getV (ci := 6) (k := 1) (nI (gN (gtx (zT z) ((zN z - 2) / 4)))) dX9_load_71 k_170 (by decide) rfl (by assumption) (by rw [mx_u_at, if_neg (by omega), mx_u_at, if_neg (by omega)]; exact (by rw [mx_u_at, if_neg (by omega)]; exact hg4.2.2.1)) ?_
          exact mx_iret dX9_load_74 rfl rfl (⟨by unfold fl_load; rw [if_pos k3], rfl, hP1.tr (hP2.tr (hP3.tr (hP3.1.sl (fl := fun _ => false) (kp := zK z) (((mx_fr.rf _ _ _).u (by omega)).u (by omega)) (fun s hs => ⟨(by rw [mx_u_at, mx_u_at]; rcases (show s = 0 ∨ s = 1 by omega) with rfl | rfl <;> simp <;> rfl), fun q => Bool.noConfusion q⟩))))⟩)
        · skip
          exact absurd c51 (by decide)
