/-! THE LAW: holds -/
theorem nI_n9 {n : Nat} (h : n < 2 ^ 31) : ¬ nI n = -9999003 := fun q => by
  have h1 := congrArg Int32.toInt q
  rw [nI_toInt h, show (-9999003 : Int32).toInt = -9999003 from rfl] at h1
  omega
theorem gr_le {x y : Option Nat} (hx : ∀ z, x = some z → z < 2 ^ 31) (hy : ∀ z, y = some z → z < 2 ^ 31) (h : (oI y).toInt ≤ (oI x).toInt) : oI x = oI (omx x y) := by
  have h1 := oI_max hx hy
  rw [if_neg (fun q => by rw [Int32.lt_iff_toInt_lt] at q; omega)] at h1
  exact h1
theorem gr_gt {x y : Option Nat} (hx : ∀ z, x = some z → z < 2 ^ 31) (hy : ∀ z, y = some z → z < 2 ^ 31) (h : ¬ (oI y).toInt ≤ (oI x).toInt) : oI y = oI (omx x y) := by
  have h1 := oI_max hx hy
  rw [if_pos (by rw [Int32.lt_iff_toInt_lt]; omega)] at h1
  exact h1
theorem fl_turn_03 {z : Zs} {s : Nat} (hs : s < gN (zG z)) (h24 : gN (zG z) ≤ 24) : fl_turn z (nI s) = 0 ∨ fl_turn z (nI s) = 3 := by
  unfold fl_turn
  rw [if_neg (fun q => q (by rw [nI_toInt (by omega)]; omega))]
  split
  · exact Or.inl rfl
  · exact Or.inr rfl
theorem fl_turn_g {z : Zs} {s : Nat} (hs : s < gN (zG z)) (h24 : gN (zG z) ≤ 24) (h : fl_turn z (nI s) = 0) : gIx (zG z) (gT (zG z) s) (gK (zG z) s) (gF (zG z) s) = none := by
  have h1 := (fl_turn_0 h).2
  rw [nI_tt (by omega)] at h1
  exact h1
theorem fl_turn_2 {z z1 : Zs} {s : Nat} (hU : uqG (zG z)) (hs : s < gN (zG z)) (h24 : gN (zG z) ≤ 24) (h : fl_turn z (nI s) = 0) (e : nx_turn z (nI s).toInt.toNat = z1) : fl_turn z1 (nI s) = 0 := by
  have h1 := rv_2 hU hs (fl_turn_g hs h24 h)
  rw [nI_tt (by omega)] at e
  subst e
  unfold fl_turn
  rw [if_neg (fun q => q (by rw [nI_toInt (by omega)]; show _ ∧ (s : Int) < ((gN (zG z) : Nat) : Int); omega)), nI_tt (by omega)]
  exact if_pos h1
theorem gCh_le9 (g : Nat → Nat) (k l : Nat) : ∀ n, gCh g k l n ≤ n
  | 0 => Nat.le_refl _
  | n + 1 => by
    have := gCh_le9 g k l n
    unfold gCh
    split <;> omega
theorem fl_sw0 (k l : Nat) (hk : k < 4) (hl : l < 4) : fl_exchange (nI k) (nI l) = 0 := by
  unfold fl_exchange
  rw [if_neg (fun q => q (by rw [nI_toInt (by omega), nI_toInt (by omega)]; omega))]
theorem tn_F {z z1 : Zs} {s : Nat} (h : s < 2 ^ 31) (e : nx_turn z (nI s).toInt.toNat = z1) : gF (zG z1) s = gT (zG z) s ∧ gT (zG z1) s = gF (zG z) s ∧ gN (zG z1) = gN (zG z) := by
  rw [nI_tt h] at e
  subst e
  exact ⟨if_pos rfl, if_pos rfl, rfl⟩
/-- what holds leaves: the history alone may be another -/
def hoZ (z : Zs) (x : Nat) : Zs :=
  if gN (zG z) = 0 then z else
    nx_undo (nx_undo (nx_exchange (nx_exchange (if fl_turn z (nI (x % gN (zG z))) = 0 then nx_undo (nx_undo (nx_turn (nx_turn z (nI (x % gN (zG z))).toInt.toNat) (nI (x % gN (zG z))).toInt.toNat)) else z) (nI (x % 4)).toInt.toNat (nI (x / 4 % 4)).toInt.toNat) (nI (x / 4 % 4)).toInt.toNat (nI (x % 4)).toInt.toNat))
theorem zj_un2 {z : Zs} {v w : Gr} (h1 : zJ (zSet (zPush (zSet (zPush z) v)) w)) : zJ (nx_undo (nx_undo (zSet (zPush (zSet (zPush z) v)) w))) := zj_un h1
theorem hoZ_J {z : Zs} (h : zJ z) (h24 : gN (zG z) ≤ 24) (x : Nat) : zJ (hoZ z x) := by
  unfold hoZ
  by_cases c : gN (zG z) = 0
  · rw [if_pos c]; exact h
  · rw [if_neg c]
    have hs : x % gN (zG z) < gN (zG z) := Nat.mod_lt _ (by omega)
    have key : ∀ w, zJ w → zJ (nx_undo (nx_undo (nx_exchange (nx_exchange w (nI (x % 4)).toInt.toNat (nI (x / 4 % 4)).toInt.toNat) (nI (x / 4 % 4)).toInt.toNat (nI (x % 4)).toInt.toNat))) := fun w hw => zj_un (zj_exchange (zj_exchange hw _ _) _ _)
    by_cases e : fl_turn z (nI (x % gN (zG z))) = 0
    · rw [if_pos e]
      exact key _ (zj_un (zj_turn (zj_turn h e) (fl_turn_2 h.2.1 hs h24 e rfl)))
    · rw [if_neg e]
      exact key _ h
/-- what is known of a best path, going by going -/
def pH (z : Zs) (i j c n : Nat) (w f : Nat → Nat) : Prop := w n = j ∧ f n = c ∧ ∀ k, k < n → ∃ s d, an_pathAt z i j k = some (10 * s + d) ∧ s < gN (zG z) ∧ d < 2 ∧ (if d = 0 then gF (zG z) s else gT (zG z) s) = w k ∧ (if d = 0 then gT (zG z) s else gF (zG z) s) = w (k + 1) ∧ f (k + 1) = f k + gC (zG z) s ∧ f (k + 1) ≤ c

theorem pfB_256 {v : Gr} (hP : gP v ≤ 8) (cs : Nat → Option Nat) : pfB cs (gP v) < 256 := Nat.lt_of_lt_of_le (pfB_lt _ _) (Nat.pow_le_pow_right (by decide) hP : _ ≤ 2 ^ 8)
theorem an_p2 {z : Zs} (h : vG (zX z)) (i : Nat) : an_person z i 2 < 256 := pfB_256 h.1.1 _
theorem an_p3 {z : Zs} (h : vG (zX z)) (i : Nat) : an_person z i 3 < 256 := by
  show ptB (zG z) (vA (zX z)) i (gP (zG z)) < 256
  rw [ptB_f]
  exact pfB_256 h.1.1 _
theorem fl2_0 {z : Zs} {i j : Nat} (h8 : gP (zG z) ≤ 8) (hi : i < gP (zG z)) (hj : j < gP (zG z)) : fl_two z (nI i) (nI j) = 0 := by
  unfold fl_two
  rw [if_neg (fun q => q (by rw [nI_toInt (by omega), nI_toInt (by omega)]; omega))]
theorem flp_0 {z : Zs} {i w : Nat} (h8 : gP (zG z) ≤ 8) (hi : i < gP (zG z)) (hw : w < 4) : fl_person z (nI i) (nI w) = 0 := by
  unfold fl_person
  rw [if_neg (fun q => q (by rw [nI_toInt (by omega)]; omega)), if_neg (fun q => q (by rw [nI_toInt (by omega)]; omega))]
theorem flq_0 {z : Zs} {i j w : Nat} (h8 : gP (zG z) ≤ 8) (hi : i < gP (zG z)) (hj : j < gP (zG z)) (hw : w < 5) : fl_paths z (nI i) (nI j) (nI w) = 0 := by
  unfold fl_paths
  rw [if_neg (fun q => q (by rw [nI_toInt (by omega), nI_toInt (by omega)]; omega)), if_neg (fun q => q (by rw [nI_toInt (by omega)]; omega))]

set_option maxHeartbeats 2000000 in
set_option maxRecDepth 100000 in
theorem lr_holds (G : mx_G) (I : mx_I) (a : Nat) (z : Zs) (hW : cW G I a z) (hJ : zJ z) (x : Nat) (hx : x < 2 ^ 31) : mx_CT yL_holds mL_holds 11 678 4068 [.ref a, .int (nI x)] G I (fun rv Gz Iz => rv = some (.int (nI 1)) ∧ cP G I a (hoZ z x) Gz Iz) (fun _ _ _ => False) := by
  refine mx_start (k := 15) (by decide) rfl rfl (fun h => nomatch h) (Nat.le_of_ble_eq_true rfl) ?_
  show mx_V mL_holds mx_S0 11 678 4068 0 [some (.ref a), some (.int (nI x)), none, none, none, none, none, none, none, none, none, none, none, none, none, none, none] [] G I (fun rv Gz Iz => rv = some (.int (nI 1)) ∧ cP G I a (hoZ z x) Gz Iz) (fun _ _ _ => False)
  have hP8 := hW.P8
  have hN24 := hW.N24
  have hv := vG_of hW hJ.1
  have hvb9 : ∀ s, s < gN (zG z) → gF (zG z) s < 8 ∧ gK (zG z) s < 4 ∧ gT (zG z) s < 8 ∧ 1 ≤ gC (zG z) s ∧ gC (zG z) s ≤ 9 := hv.1.2.2
  have L31 : ∀ (fq : Nat) (i : Nat) (G1 : mx_G) (I1 : mx_I), gP (zG z) - i < fq → (i ≤ gP (zG z)) → (cP G I a z G1 I1) → mx_V mL_holds mx_S0 11 (82 * (gP (zG z) - i) + 20) (492 * (gP (zG z) - i) + 120) 31 [some (.ref a), some (.int (nI x)), some (.int (nI (gP (zG z)))), some (.int (nI (gN (zG z)))), some (.int (nI ((xP (zG z) (vA (zX z)) i 0).1))), some (.int (oI (xP (zG z) (vA (zX z)) i 0).2)), some (.int (nI 1)), some (.int (nI i)), none, none, none, none, none, none, none, none, none] [] G1 I1 (fun rv Gz Iz => rv = some (.int (nI 1)) ∧ cP G I a (hoZ z x) Gz Iz) (fun _ _ _ => False) := by
    intro fq
    induction fq with
    | zero => intro i G1 I1 hfu; exact absurd hfu (Nat.not_lt_zero _)
    | succ fq ih =>
      intro i G1 I1 hfu hi hA1
      have hW1 := hA1.1
      have L56 : ∀ (fq : Nat) (j : Nat) (G2 : mx_G) (I2 : mx_I), gP (zG z) - j < fq → (j ≤ gP (zG z)) → (i < gP (zG z)) → (cP G I a z G2 I2) → mx_V mL_holds mx_S0 11 (10 * (gP (zG z) - j) + 82 * (gP (zG z) - (i + 1)) + 20) (60 * (gP (zG z) - j) + 492 * (gP (zG z) - (i + 1)) + 120) 56 [some (.ref a), some (.int (nI x)), some (.int (nI (gP (zG z)))), some (.int (nI (gN (zG z)))), some (.int (nI ((xP (zG z) (vA (zX z)) i j).1))), some (.int (oI (xP (zG z) (vA (zX z)) i j).2)), some (.int (nI 1)), some (.int (nI i)), some (.int (nI (an_person z i 2))), some (.int (nI j)), none, none, none, none, none, none, none] [] G2 I2 (fun rv Gz Iz => rv = some (.int (nI 1)) ∧ cP G I a (hoZ z x) Gz Iz) (fun _ _ _ => False) := by
        intro fq
        induction fq with
        | zero => intro j G2 I2 hfu; exact absurd hfu (Nat.not_lt_zero _)
        | succ fq ih2 =>
          intro j G2 I2 hfu hj hiP hA2
          have hW2 := hA2.1
          have L134 : ∀ (fq : Nat) (k n c : Nat) (w f : Nat → Nat) (pr : Nat) (gr : Int32) (G3 : mx_G) (I3 : mx_I), n - k < fq → (k ≤ n) → (n ≤ 167) → (c ≤ 1503) → (bR (zG z) (vA (zX z)) (gC (zG z)) (tgA (vA (zX z)) j) i 0 = some (c, n)) → (pH z i j c n w f) → (f k ≤ c) → (pr = (xP (zG z) (vA (zX z)) i (j + 1)).1) → (gr = oI (xP (zG z) (vA (zX z)) i (j + 1)).2) → (j < gP (zG z)) → (cP G I a z G3 I3) → mx_V mL_holds mx_S0 11 (10 * (gP (zG z) - (j + 1)) + 82 * (gP (zG z) - (i + 1)) + 20 + 8) (60 * (gP (zG z) - (j + 1)) + 492 * (gP (zG z) - (i + 1)) + 120 + 48) 134 [some (.ref a), some (.int (nI x)), some (.int (nI (gP (zG z)))), some (.int (nI (gN (zG z)))), some (.int (nI pr)), some (.int gr), some (.int (nI 1)), some (.int (nI i)), some (.int (nI (an_person z i 2))), some (.int (nI j)), some (.int (nI c)), some (.int (nI n)), some (.int (nI (f k))), some (.int (nI (w k))), some (.int (nI k)), none, none] [] G3 I3 (fun rv Gz Iz => rv = some (.int (nI 1)) ∧ cP G I a (hoZ z x) Gz Iz) (fun _ _ _ => False) := by
            intro fq
            induction fq with
            | zero => intro k n c w f pr gr G3 I3 hfu; exact absurd hfu (Nat.not_lt_zero _)
            | succ fq ih3 =>
              intro k n c w f pr gr G3 I3 hfu hk hn hc hB hH hfk hpr hgr hjP hA3
              have hW3 := hA3.1
              refine mx_iload (i := 14) (hl := rfl) (hd := dL_holds_134) ?_
              refine mx_iload (i := 11) (hl := rfl) (hd := dL_holds_136) ?_
              refine mx_cmpN_ge 267 dL_holds_138 (by decide) (by omega) (by omega) (fun c138 => ?_) (fun c138 => ?_)
              · skip
                have hkn : k = n := by omega
                have hBn : ¬ bR (zG z) (vA (zX z)) (gC (zG z)) (tgA (vA (zX z)) j) i 0 = none := fun q => by rw [hB] at q; cases q
                have hat : w k = j := by rw [hkn]; exact hH.1
                have hsum : f k = c := by rw [hkn]; exact hH.2.1
                have hs2 : an_person z i 2 < 2 ^ 31 := Nat.lt_trans (an_p2 hv i) (by decide)
                have hs3 : an_person z j 3 < 2 ^ 31 := Nat.lt_trans (an_p3 hv j) (by decide)
                have hb1 : an_paths z i j 1 < 2 ^ 31 := Nat.lt_of_le_of_lt (pa_b hv i j 1) (by decide)
                have hb2 : an_paths z i j 2 < 2 ^ 31 := Nat.lt_of_le_of_lt (pa_b hv i j 2) (by decide)
                have hb3 : an_paths z i j 3 < 2 ^ 31 := Nat.lt_of_le_of_lt (pa_b hv i j 3) (by decide)
                refine mx_iload (i := 6) (hl := rfl) (hd := dL_holds_267) ?_
                refine mx_if1_eq 410 dL_holds_269 (by decide) ?_
                refine mx_iload (i := 8) (hl := rfl) (hd := dL_holds_272) ?_
                refine mx_iload (i := 9) (hl := rfl) (hd := dL_holds_274) ?_
                refine mx_ishrN dL_holds_276 (by omega) (by omega) ?_
                refine mx_iconstN 1 dL_holds_277 (by decide) ?_
                refine mx_iandN dL_holds_278 ?_
                refine mx_top (mx_bit _ _) ?_
                refine mx_top (y := nI 1) ((mx_bT ((s2_B hv hiP hjP).mpr hBn)).symm) ?_
                refine mx_iconstN 1 dL_holds_279 (by decide) ?_
                refine mx_cmpN_ne 287 dL_holds_280 (by decide) (by omega) (by omega) (fun c280 => ?_) (fun c280 => ?_)
                · skip
                  exact absurd c280 (by decide)
                · skip
                  refine mx_iconstN 1 dL_holds_283 (by decide) ?_
                  refine mx_goto (tgt := 288) dL_holds_284 (by decide) ?_
                  refine mx_iload (i := 10) (hl := rfl) (hd := dL_holds_288) ?_
                  refine mx_ifN_lt 297 dL_holds_290 (by decide) (by omega) (fun c290 => ?_) (fun c290 => ?_)
                  · skip
                    exact absurd c290 (Nat.not_lt_zero _)
                  · skip
                    
                    refine mx_iconstN 1 dL_holds_293 (by decide) ?_
                    refine mx_goto (tgt := 298) dL_holds_294 (by decide) ?_
                    refine mx_cmpN_ne 410 dL_holds_298 (by decide) (by omega) (by omega) (fun c298 => ?_) (fun c298 => ?_)
                    · skip
                      exact absurd c298 (by decide)
                    · skip
                      refine mx_aload_n (i := 0) (hi := rfl) (hl := rfl) (hd := dL_holds_301) ?_
                      refine mx_iconstN 4 dL_holds_302 (by decide) ?_
                      refine mx_iload (i := 9) (hl := rfl) (hd := dL_holds_303) ?_
                      refine mx_iconstN 3 dL_holds_305 (by decide) ?_
                      refine mx_iconstN 0 dL_holds_306 (by decide) ?_
                      refine mx_callS (bc := 10 * (gP (zG z) - (j + 1)) + 82 * (gP (zG z) - (i + 1)) + 20 + 6) (bs := 60 * (gP (zG z) - (j + 1)) + 492 * (gP (zG z) - (i + 1)) + 120 + 36) (As := [.ref a, .int (nI 4), .int (nI j), .int (nI 3), .int (nI 0)]) (rest := []) (b1 := 2) (b2 := 12) dL_holds_307 (lc_person G3 I3 a z hW3 (nI j) (nI 3) (nI 0)) km_L_call rfl k_664 k_665 rfl rfl (Nat.le_of_ble_eq_true rfl) (by decide) (fun _ _ _ q => q.elim) (fun r1 G1 I1 h2 => ?_)
                      obtain ⟨e9, hQ1⟩ := h2
                      rw [tv_0 (flp_0 hP8 hjP (by decide) : fl_person z (nI j) (nI 3) = 0)] at e9
                      rw [show nI (an_person z (nI j).toInt.toNat (nI 3).toInt.toNat) = nI (an_person z j 3) from by rw [nI_tt (by omega), nI_tt (by decide)]] at e9
                      subst e9
                      have hA1 := hA3.tr hQ1
                      have hW1 := hQ1.1
                      refine mx_iload (i := 7) (hl := rfl) (hd := dL_holds_310) ?_
                      refine mx_ishrN dL_holds_312 (by omega) (by omega) ?_
                      refine mx_iconstN 1 dL_holds_313 (by decide) ?_
                      refine mx_iandN dL_holds_314 ?_
                      refine mx_top (mx_bit _ _) ?_
                      refine mx_top (y := nI 1) ((mx_bT ((s3_B hv hiP hjP).mpr hBn)).symm) ?_
                      refine mx_iconstN 1 dL_holds_315 (by decide) ?_
                      refine mx_cmpN_ne 323 dL_holds_316 (by decide) (by omega) (by omega) (fun c316 => ?_) (fun c316 => ?_)
                      · skip
                        exact absurd c316 (by decide)
                      · skip
                        refine mx_iconstN 1 dL_holds_319 (by decide) ?_
                        refine mx_goto (tgt := 324) dL_holds_320 (by decide) ?_
                        refine mx_iload (i := 10) (hl := rfl) (hd := dL_holds_324) ?_
                        refine mx_ifN_lt 333 dL_holds_326 (by decide) (by omega) (fun c326 => ?_) (fun c326 => ?_)
                        · skip
                          exact absurd c326 (Nat.not_lt_zero _)
                        · skip
                          
                          refine mx_iconstN 1 dL_holds_329 (by decide) ?_
                          refine mx_goto (tgt := 334) dL_holds_330 (by decide) ?_
                          refine mx_cmpN_ne 410 dL_holds_334 (by decide) (by omega) (by omega) (fun c334 => ?_) (fun c334 => ?_)
                          · skip
                            exact absurd c334 (by decide)
                          · skip
                            refine mx_iload (i := 10) (hl := rfl) (hd := dL_holds_337) ?_
                            refine mx_ifN_lt 356 dL_holds_339 (by decide) (by omega) (fun c339 => ?_) (fun c339 => ?_)
                            · skip
                              exact absurd c339 (Nat.not_lt_zero _)
                            · skip
                              
                              refine mx_iload (i := 13) (hl := rfl) (hd := dL_holds_342) ?_
                              refine mx_top (y := nI j) (congrArg nI hat) ?_
                              refine mx_iload (i := 9) (hl := rfl) (hd := dL_holds_344) ?_
                              refine mx_cmpN_ne 410 dL_holds_346 (by decide) (by omega) (by omega) (fun c346 => ?_) (fun c346 => ?_)
                              · skip
                                exact absurd rfl c346
                              · skip
                                refine mx_iload (i := 12) (hl := rfl) (hd := dL_holds_349) ?_
                                refine mx_top (y := nI c) (congrArg nI hsum) ?_
                                refine mx_iload (i := 10) (hl := rfl) (hd := dL_holds_351) ?_
                                refine mx_cmpN_ne 410 dL_holds_353 (by decide) (by omega) (by omega) (fun c353 => ?_) (fun c353 => ?_)
                                · skip
                                  exact absurd rfl c353
                                · skip
                                  refine mx_aload_n (i := 0) (hi := rfl) (hl := rfl) (hd := dL_holds_356) ?_
                                  refine mx_bipushN 17 dL_holds_357 (by decide) ?_
                                  refine mx_iload (i := 7) (hl := rfl) (hd := dL_holds_359) ?_
                                  refine mx_iload (i := 9) (hl := rfl) (hd := dL_holds_361) ?_
                                  refine mx_iconstN 1 dL_holds_363 (by decide) ?_
                                  refine mx_callS (bc := 10 * (gP (zG z) - (j + 1)) + 82 * (gP (zG z) - (i + 1)) + 20 + 4) (bs := 60 * (gP (zG z) - (j + 1)) + 492 * (gP (zG z) - (i + 1)) + 120 + 24) (As := [.ref a, .int (nI 17), .int (nI i), .int (nI j), .int (nI 1)]) (rest := []) (b1 := 2) (b2 := 12) dL_holds_364 (lc_paths G1 I1 a z hW1 (nI i) (nI j) (nI 1)) km_L_call rfl k_664 k_665 rfl rfl (Nat.le_of_ble_eq_true rfl) (by decide) (fun _ _ _ q => q.elim) (fun r3 G2 I2 h4 => ?_)
                                  obtain ⟨e9, hQ2⟩ := h4
                                  rw [tv_0 (flq_0 hP8 hiP hjP (by decide) : fl_paths z (nI i) (nI j) (nI 1) = 0)] at e9
                                  rw [show nI (an_paths z (nI i).toInt.toNat (nI j).toInt.toNat (nI 1).toInt.toNat) = nI (an_paths z i j 1) from by rw [nI_tt (by omega), nI_tt (by omega), nI_tt (by decide)]] at e9
                                  subst e9
                                  have hA2 := hA1.tr hQ2
                                  have hW2 := hQ2.1
                                  refine mx_aload_n (i := 0) (hi := rfl) (hl := rfl) (hd := dL_holds_367) ?_
                                  refine mx_bipushN 17 dL_holds_368 (by decide) ?_
                                  refine mx_iload (i := 7) (hl := rfl) (hd := dL_holds_370) ?_
                                  refine mx_iload (i := 9) (hl := rfl) (hd := dL_holds_372) ?_
                                  refine mx_iconstN 2 dL_holds_374 (by decide) ?_
                                  refine mx_callS (bc := 10 * (gP (zG z) - (j + 1)) + 82 * (gP (zG z) - (i + 1)) + 20 + 2) (bs := 60 * (gP (zG z) - (j + 1)) + 492 * (gP (zG z) - (i + 1)) + 120 + 12) (As := [.ref a, .int (nI 17), .int (nI i), .int (nI j), .int (nI 2)]) (rest := [.int (nI (an_paths z i j 1))]) (b1 := 2) (b2 := 12) dL_holds_375 (lc_paths G2 I2 a z hW2 (nI i) (nI j) (nI 2)) km_L_call rfl k_664 k_665 rfl rfl (Nat.le_of_ble_eq_true rfl) (by decide) (fun _ _ _ q => q.elim) (fun r5 G3 I3 h6 => ?_)
                                  obtain ⟨e9, hQ3⟩ := h6
                                  rw [tv_0 (flq_0 hP8 hiP hjP (by decide) : fl_paths z (nI i) (nI j) (nI 2) = 0)] at e9
                                  rw [show nI (an_paths z (nI i).toInt.toNat (nI j).toInt.toNat (nI 2).toInt.toNat) = nI (an_paths z i j 2) from by rw [nI_tt (by omega), nI_tt (by omega), nI_tt (by decide)]] at e9
                                  subst e9
                                  have hA3 := hA2.tr hQ3
                                  have hW3 := hQ3.1
                                  refine mx_cmpN_gt 410 dL_holds_378 (by decide) (hb1) (hb2) (fun c378 => ?_) (fun c378 => ?_)
                                  · skip
                                    exact absurd (show an_paths z i j 1 ≤ an_paths z i j 2 from pa_up z i j 1) (by omega)
                                  · skip
                                    refine mx_iload (i := 10) (hl := rfl) (hd := dL_holds_381) ?_
                                    refine mx_ifN_lt 406 dL_holds_383 (by decide) (by omega) (fun c383 => ?_) (fun c383 => ?_)
                                    · skip
                                      exact absurd c383 (Nat.not_lt_zero _)
                                    · skip
                                      
                                      refine mx_iload (i := 11) (hl := rfl) (hd := dL_holds_386) ?_
                                      refine mx_iconstN 3 dL_holds_388 (by decide) ?_
                                      refine mx_cmpN_gt 406 dL_holds_389 (by decide) (by omega) (by omega) (fun c389 => ?_) (fun c389 => ?_)
                                      · skip
                                        refine mx_iconstN 1 dL_holds_406 (by decide) ?_
                                        refine mx_goto (tgt := 411) dL_holds_407 (by decide) ?_
                                        refine mx_istoreE (i := 6) (ls' := [some (.ref a), some (.int (nI x)), some (.int (nI (gP (zG z)))), some (.int (nI (gN (zG z)))), some (.int (nI pr)), some (.int gr), some (.int (nI 1)), some (.int (nI i)), some (.int (nI (an_person z i 2))), some (.int (nI j)), some (.int (nI c)), some (.int (nI n)), some (.int (nI (f k))), some (.int (nI (w k))), some (.int (nI k)), none, none]) (hd := dL_holds_411) (hn := by decide) (hok := rfl) (hls := rfl) ?_
                                        refine mx_wk (bc' := 10 * (gP (zG z) - (j + 1)) + 82 * (gP (zG z) - (i + 1)) + 20) (bs' := 60 * (gP (zG z) - (j + 1)) + 492 * (gP (zG z) - (i + 1)) + 120) (by omega) (by omega) ?_
                                        subst hpr hgr
                                        refine mx_iincE (i := 9) (ls' := [some (.ref a), some (.int (nI x)), some (.int (nI (gP (zG z)))), some (.int (nI (gN (zG z)))), some (.int (nI ((xP (zG z) (vA (zX z)) i (j + 1)).1))), some (.int (oI (xP (zG z) (vA (zX z)) i (j + 1)).2)), some (.int (nI 1)), some (.int (nI i)), some (.int (nI (an_person z i 2))), some (.int (nI (j + 1))), some (.int (nI c)), some (.int (nI n)), some (.int (nI (f k))), some (.int (nI (w k))), some (.int (nI k)), none, none]) 1 dL_holds_413 rfl (by decide) (by decide) rfl rfl ?_
                                        refine mx_goto (tgt := 56) dL_holds_416 (by decide) ?_
                                        refine mx_leS (ls' := [some (.ref a), some (.int (nI x)), some (.int (nI (gP (zG z)))), some (.int (nI (gN (zG z)))), some (.int (nI ((xP (zG z) (vA (zX z)) i (j + 1)).1))), some (.int (oI (xP (zG z) (vA (zX z)) i (j + 1)).2)), some (.int (nI 1)), some (.int (nI i)), some (.int (nI (an_person z i 2))), some (.int (nI (j + 1))), none, none, none, none, none, none, none]) ⟨rfl, rfl, rfl, rfl, rfl, rfl, rfl, rfl, rfl, rfl, trivial⟩ ?_
                                        exact ih2 (j + 1) _ _ (by omega) (by omega) hiP hA3
                                      · skip
                                        refine mx_aload_n (i := 0) (hi := rfl) (hl := rfl) (hd := dL_holds_392) ?_
                                        refine mx_bipushN 17 dL_holds_393 (by decide) ?_
                                        refine mx_iload (i := 7) (hl := rfl) (hd := dL_holds_395) ?_
                                        refine mx_iload (i := 9) (hl := rfl) (hd := dL_holds_397) ?_
                                        refine mx_iconstN 3 dL_holds_399 (by decide) ?_
                                        refine mx_callS (bc := 10 * (gP (zG z) - (j + 1)) + 82 * (gP (zG z) - (i + 1)) + 20) (bs := 60 * (gP (zG z) - (j + 1)) + 492 * (gP (zG z) - (i + 1)) + 120) (As := [.ref a, .int (nI 17), .int (nI i), .int (nI j), .int (nI 3)]) (rest := []) (b1 := 2) (b2 := 12) dL_holds_400 (lc_paths G3 I3 a z hW3 (nI i) (nI j) (nI 3)) km_L_call rfl k_664 k_665 rfl rfl (Nat.le_of_ble_eq_true rfl) (by decide) (fun _ _ _ q => q.elim) (fun r7 G4 I4 h8 => ?_)
                                        obtain ⟨e9, hQ4⟩ := h8
                                        rw [tv_0 (flq_0 hP8 hiP hjP (by decide) : fl_paths z (nI i) (nI j) (nI 3) = 0)] at e9
                                        rw [show nI (an_paths z (nI i).toInt.toNat (nI j).toInt.toNat (nI 3).toInt.toNat) = nI (an_paths z i j 3) from by rw [nI_tt (by omega), nI_tt (by omega), nI_tt (by decide)]] at e9
                                        subst e9
                                        have hA4 := hA3.tr hQ4
                                        have hW4 := hQ4.1
                                        refine mx_ifN_le 410 dL_holds_403 (by decide) (hb3) (fun c403 => ?_) (fun c403 => ?_)
                                        · skip
                                          exact absurd (pa_pos hv hB (g := 3) (by omega)) (by omega)
                                        · skip
                                          refine mx_iconstN 1 dL_holds_406 (by decide) ?_
                                          refine mx_goto (tgt := 411) dL_holds_407 (by decide) ?_
                                          refine mx_istoreE (i := 6) (ls' := [some (.ref a), some (.int (nI x)), some (.int (nI (gP (zG z)))), some (.int (nI (gN (zG z)))), some (.int (nI pr)), some (.int gr), some (.int (nI 1)), some (.int (nI i)), some (.int (nI (an_person z i 2))), some (.int (nI j)), some (.int (nI c)), some (.int (nI n)), some (.int (nI (f k))), some (.int (nI (w k))), some (.int (nI k)), none, none]) (hd := dL_holds_411) (hn := by decide) (hok := rfl) (hls := rfl) ?_
                                          refine mx_wk (bc' := 10 * (gP (zG z) - (j + 1)) + 82 * (gP (zG z) - (i + 1)) + 20) (bs' := 60 * (gP (zG z) - (j + 1)) + 492 * (gP (zG z) - (i + 1)) + 120) (by omega) (by omega) ?_
                                          subst hpr hgr
                                          refine mx_iincE (i := 9) (ls' := [some (.ref a), some (.int (nI x)), some (.int (nI (gP (zG z)))), some (.int (nI (gN (zG z)))), some (.int (nI ((xP (zG z) (vA (zX z)) i (j + 1)).1))), some (.int (oI (xP (zG z) (vA (zX z)) i (j + 1)).2)), some (.int (nI 1)), some (.int (nI i)), some (.int (nI (an_person z i 2))), some (.int (nI (j + 1))), some (.int (nI c)), some (.int (nI n)), some (.int (nI (f k))), some (.int (nI (w k))), some (.int (nI k)), none, none]) 1 dL_holds_413 rfl (by decide) (by decide) rfl rfl ?_
                                          refine mx_goto (tgt := 56) dL_holds_416 (by decide) ?_
                                          refine mx_leS (ls' := [some (.ref a), some (.int (nI x)), some (.int (nI (gP (zG z)))), some (.int (nI (gN (zG z)))), some (.int (nI ((xP (zG z) (vA (zX z)) i (j + 1)).1))), some (.int (oI (xP (zG z) (vA (zX z)) i (j + 1)).2)), some (.int (nI 1)), some (.int (nI i)), some (.int (nI (an_person z i 2))), some (.int (nI (j + 1))), none, none, none, none, none, none, none]) ⟨rfl, rfl, rfl, rfl, rfl, rfl, rfl, rfl, rfl, rfl, trivial⟩ ?_
                                          exact ih2 (j + 1) _ _ (by omega) (by omega) hiP hA4
              · skip
                
                refine mx_iload (i := 6) (hl := rfl) (hd := dL_holds_141) ?_
                refine mx_if1_eq 267 dL_holds_143 (by decide) ?_
                obtain ⟨s, d, hg, hs, hd, hb, he, hf1, hf2⟩ := hH.2.2 k (by omega)
                have hgs := hvb9 s hs
                rcases (show d = 0 ∨ d = 1 by omega) with rfl | rfl
                · skip
                  rw [if_pos rfl] at hb he
                  refine mx_aload_n (i := 0) (hi := rfl) (hl := rfl) (hd := dL_holds_146) ?_
                  refine mx_bipushN 16 dL_holds_147 (by decide) ?_
                  refine mx_iload (i := 7) (hl := rfl) (hd := dL_holds_149) ?_
                  refine mx_iload (i := 9) (hl := rfl) (hd := dL_holds_151) ?_
                  refine mx_iload (i := 14) (hl := rfl) (hd := dL_holds_153) ?_
                  refine mx_callSi (As := [.ref a, .int (nI 16), .int (nI i), .int (nI j), .int (nI k)]) (rest := []) dL_holds_155 (lc_pathAtT G3 I3 a z hW3 i j k hiP hjP (by omega)) km_L_call rfl k_664 k_665 rfl rfl (Nat.le_of_ble_eq_true rfl) (by decide) (fun r9 I5 h10 => ?_)
                  obtain ⟨e9, hQ5⟩ := h10
                  subst e9
                  have hA5 := hA3.tr hQ5
                  have hW5 := hQ5.1
                  refine mx_top (y := nI (10 * s + 0)) (by rw [hg]; rfl) ?_
                  refine mx_istoreE (i := 15) (ls' := [some (.ref a), some (.int (nI x)), some (.int (nI (gP (zG z)))), some (.int (nI (gN (zG z)))), some (.int (nI pr)), some (.int gr), some (.int (nI 1)), some (.int (nI i)), some (.int (nI (an_person z i 2))), some (.int (nI j)), some (.int (nI c)), some (.int (nI n)), some (.int (nI (f k))), some (.int (nI (w k))), some (.int (nI k)), some (.int (nI (10 * s + 0))), none]) (hd := dL_holds_158) (hn := by decide) (hok := rfl) (hls := rfl) ?_
                  refine mx_iload (i := 15) (hl := rfl) (hd := dL_holds_160) ?_
                  refine mx_bipushN 10 dL_holds_162 (by decide) ?_
                  refine mx_idivN dL_holds_164 (by omega) (by decide) ?_
                  refine mx_top (y := nI s) (congrArg nI (by omega)) ?_
                  refine mx_istoreE (i := 16) (ls' := [some (.ref a), some (.int (nI x)), some (.int (nI (gP (zG z)))), some (.int (nI (gN (zG z)))), some (.int (nI pr)), some (.int gr), some (.int (nI 1)), some (.int (nI i)), some (.int (nI (an_person z i 2))), some (.int (nI j)), some (.int (nI c)), some (.int (nI n)), some (.int (nI (f k))), some (.int (nI (w k))), some (.int (nI k)), some (.int (nI (10 * s + 0))), some (.int (nI s))]) (hd := dL_holds_165) (hn := by decide) (hok := rfl) (hls := rfl) ?_
                  refine mx_iload (i := 15) (hl := rfl) (hd := dL_holds_167) ?_
                  refine mx_ifN_lt 202 dL_holds_169 (by decide) (by omega) (fun c169 => ?_) (fun c169 => ?_)
                  · skip
                    exact absurd c169 (Nat.not_lt_zero _)
                  · skip
                    refine mx_aload_n (i := 0) (hi := rfl) (hl := rfl) (hd := dL_holds_172) ?_
                    refine mx_iconstN 3 dL_holds_173 (by decide) ?_
                    refine mx_iload (i := 16) (hl := rfl) (hd := dL_holds_174) ?_
                    refine mx_iload (i := 15) (hl := rfl) (hd := dL_holds_176) ?_
                    refine mx_bipushN 10 dL_holds_178 (by decide) ?_
                    refine mx_iremN dL_holds_180 (by omega) (by decide) ?_
                    refine mx_top (y := nI 0) (congrArg nI (by omega)) ?_
                    refine mx_if0_ne 188 dL_holds_181 (by decide) ?_
                    refine mx_iconstN 0 dL_holds_184 (by decide) ?_
                    refine mx_goto (tgt := 189) dL_holds_185 (by decide) ?_
                    refine mx_iconstN 0 dL_holds_189 (by decide) ?_
                    refine mx_callSp (As := [.ref a, .int (nI 3), .int (nI s), .int (nI 0), .int (nI 0)]) (rest := []) dL_holds_190 (lc_stepT G3 I5 a z hW5 s 0 hs (by decide) (nI 0)) km_L_call rfl k_664 k_665 rfl rfl (Nat.le_of_ble_eq_true rfl) (by decide) ?_
                    refine mx_top (y := nI (w k)) (by rw [← hb]; rfl) ?_
                    refine mx_iload (i := 13) (hl := rfl) (hd := dL_holds_193) ?_
                    refine mx_cmpN_ne 202 dL_holds_195 (by decide) (by omega) (by omega) (fun c195 => ?_) (fun c195 => ?_)
                    · skip
                      exact absurd rfl c195
                    · skip
                      refine mx_iconstN 1 dL_holds_198 (by decide) ?_
                      refine mx_goto (tgt := 203) dL_holds_199 (by decide) ?_
                      refine mx_istoreE (i := 6) (ls' := [some (.ref a), some (.int (nI x)), some (.int (nI (gP (zG z)))), some (.int (nI (gN (zG z)))), some (.int (nI pr)), some (.int gr), some (.int (nI 1)), some (.int (nI i)), some (.int (nI (an_person z i 2))), some (.int (nI j)), some (.int (nI c)), some (.int (nI n)), some (.int (nI (f k))), some (.int (nI (w k))), some (.int (nI k)), some (.int (nI (10 * s + 0))), some (.int (nI s))]) (hd := dL_holds_203) (hn := by decide) (hok := rfl) (hls := rfl) ?_
                      refine mx_iload (i := 6) (hl := rfl) (hd := dL_holds_205) ?_
                      refine mx_if1_eq 234 dL_holds_207 (by decide) ?_
                      refine mx_aload_n (i := 0) (hi := rfl) (hl := rfl) (hd := dL_holds_210) ?_
                      refine mx_iconstN 3 dL_holds_211 (by decide) ?_
                      refine mx_iload (i := 16) (hl := rfl) (hd := dL_holds_212) ?_
                      refine mx_iload (i := 15) (hl := rfl) (hd := dL_holds_214) ?_
                      refine mx_bipushN 10 dL_holds_216 (by decide) ?_
                      refine mx_iremN dL_holds_218 (by omega) (by decide) ?_
                      refine mx_top (y := nI 0) (congrArg nI (by omega)) ?_
                      refine mx_if0_ne 226 dL_holds_219 (by decide) ?_
                      refine mx_iconstN 2 dL_holds_222 (by decide) ?_
                      refine mx_goto (tgt := 227) dL_holds_223 (by decide) ?_
                      refine mx_iconstN 0 dL_holds_227 (by decide) ?_
                      refine mx_callSp (As := [.ref a, .int (nI 3), .int (nI s), .int (nI 2), .int (nI 0)]) (rest := []) dL_holds_228 (lc_stepT G3 I5 a z hW5 s 2 hs (by decide) (nI 0)) km_L_call rfl k_664 k_665 rfl rfl (Nat.le_of_ble_eq_true rfl) (by decide) ?_
                      refine mx_top (y := nI (w (k + 1))) (by rw [← he]; rfl) ?_
                      refine mx_goto (tgt := 236) dL_holds_231 (by decide) ?_
                      refine mx_istoreE (i := 13) (ls' := [some (.ref a), some (.int (nI x)), some (.int (nI (gP (zG z)))), some (.int (nI (gN (zG z)))), some (.int (nI pr)), some (.int gr), some (.int (nI 1)), some (.int (nI i)), some (.int (nI (an_person z i 2))), some (.int (nI j)), some (.int (nI c)), some (.int (nI n)), some (.int (nI (f k))), some (.int (nI (w (k + 1)))), some (.int (nI k)), some (.int (nI (10 * s + 0))), some (.int (nI s))]) (hd := dL_holds_236) (hn := by decide) (hok := rfl) (hls := rfl) ?_
                      refine mx_iload (i := 12) (hl := rfl) (hd := dL_holds_238) ?_
                      refine mx_iload (i := 6) (hl := rfl) (hd := dL_holds_240) ?_
                      refine mx_if1_eq 257 dL_holds_242 (by decide) ?_
                      refine mx_aload_n (i := 0) (hi := rfl) (hl := rfl) (hd := dL_holds_245) ?_
                      refine mx_iconstN 3 dL_holds_246 (by decide) ?_
                      refine mx_iload (i := 16) (hl := rfl) (hd := dL_holds_247) ?_
                      refine mx_iconstN 3 dL_holds_249 (by decide) ?_
                      refine mx_iconstN 0 dL_holds_250 (by decide) ?_
                      refine mx_callSp (As := [.ref a, .int (nI 3), .int (nI s), .int (nI 3), .int (nI 0)]) (rest := [.int (nI (f k))]) dL_holds_251 (lc_stepT G3 I5 a z hW5 s 3 hs (by decide) (nI 0)) km_L_call rfl k_664 k_665 rfl rfl (Nat.le_of_ble_eq_true rfl) (by decide) ?_
                      refine mx_top (y := nI (gC (zG z) s)) (rfl) ?_
                      refine mx_goto (tgt := 258) dL_holds_254 (by decide) ?_
                      refine mx_iaddN dL_holds_258 ?_
                      refine mx_top (y := nI (f (k + 1))) (congrArg nI hf1.symm) ?_
                      refine mx_istoreE (i := 12) (ls' := [some (.ref a), some (.int (nI x)), some (.int (nI (gP (zG z)))), some (.int (nI (gN (zG z)))), some (.int (nI pr)), some (.int gr), some (.int (nI 1)), some (.int (nI i)), some (.int (nI (an_person z i 2))), some (.int (nI j)), some (.int (nI c)), some (.int (nI n)), some (.int (nI (f (k + 1)))), some (.int (nI (w (k + 1)))), some (.int (nI k)), some (.int (nI (10 * s + 0))), some (.int (nI s))]) (hd := dL_holds_259) (hn := by decide) (hok := rfl) (hls := rfl) ?_
                      refine mx_iincE (i := 14) (ls' := [some (.ref a), some (.int (nI x)), some (.int (nI (gP (zG z)))), some (.int (nI (gN (zG z)))), some (.int (nI pr)), some (.int gr), some (.int (nI 1)), some (.int (nI i)), some (.int (nI (an_person z i 2))), some (.int (nI j)), some (.int (nI c)), some (.int (nI n)), some (.int (nI (f (k + 1)))), some (.int (nI (w (k + 1)))), some (.int (nI (k + 1))), some (.int (nI (10 * s + 0))), some (.int (nI s))]) 1 dL_holds_261 rfl (by decide) (by decide) rfl rfl ?_
                      refine mx_goto (tgt := 134) dL_holds_264 (by decide) ?_
                      refine mx_leS (ls' := [some (.ref a), some (.int (nI x)), some (.int (nI (gP (zG z)))), some (.int (nI (gN (zG z)))), some (.int (nI pr)), some (.int gr), some (.int (nI 1)), some (.int (nI i)), some (.int (nI (an_person z i 2))), some (.int (nI j)), some (.int (nI c)), some (.int (nI n)), some (.int (nI (f (k + 1)))), some (.int (nI (w (k + 1)))), some (.int (nI (k + 1))), none, none]) ⟨rfl, rfl, rfl, rfl, rfl, rfl, rfl, rfl, rfl, rfl, rfl, rfl, rfl, rfl, rfl, trivial⟩ ?_
                      exact ih3 (k + 1) n c w f pr gr _ _ (by omega) (by omega) hn hc hB hH hf2 hpr hgr hjP hA5
                · skip
                  rw [if_neg (by decide)] at hb he
                  refine mx_aload_n (i := 0) (hi := rfl) (hl := rfl) (hd := dL_holds_146) ?_
                  refine mx_bipushN 16 dL_holds_147 (by decide) ?_
                  refine mx_iload (i := 7) (hl := rfl) (hd := dL_holds_149) ?_
                  refine mx_iload (i := 9) (hl := rfl) (hd := dL_holds_151) ?_
                  refine mx_iload (i := 14) (hl := rfl) (hd := dL_holds_153) ?_
                  refine mx_callSi (As := [.ref a, .int (nI 16), .int (nI i), .int (nI j), .int (nI k)]) (rest := []) dL_holds_155 (lc_pathAtT G3 I3 a z hW3 i j k hiP hjP (by omega)) km_L_call rfl k_664 k_665 rfl rfl (Nat.le_of_ble_eq_true rfl) (by decide) (fun r11 I6 h12 => ?_)
                  obtain ⟨e9, hQ6⟩ := h12
                  subst e9
                  have hA6 := hA3.tr hQ6
                  have hW6 := hQ6.1
                  refine mx_top (y := nI (10 * s + 1)) (by rw [hg]; rfl) ?_
                  refine mx_istoreE (i := 15) (ls' := [some (.ref a), some (.int (nI x)), some (.int (nI (gP (zG z)))), some (.int (nI (gN (zG z)))), some (.int (nI pr)), some (.int gr), some (.int (nI 1)), some (.int (nI i)), some (.int (nI (an_person z i 2))), some (.int (nI j)), some (.int (nI c)), some (.int (nI n)), some (.int (nI (f k))), some (.int (nI (w k))), some (.int (nI k)), some (.int (nI (10 * s + 1))), none]) (hd := dL_holds_158) (hn := by decide) (hok := rfl) (hls := rfl) ?_
                  refine mx_iload (i := 15) (hl := rfl) (hd := dL_holds_160) ?_
                  refine mx_bipushN 10 dL_holds_162 (by decide) ?_
                  refine mx_idivN dL_holds_164 (by omega) (by decide) ?_
                  refine mx_top (y := nI s) (congrArg nI (by omega)) ?_
                  refine mx_istoreE (i := 16) (ls' := [some (.ref a), some (.int (nI x)), some (.int (nI (gP (zG z)))), some (.int (nI (gN (zG z)))), some (.int (nI pr)), some (.int gr), some (.int (nI 1)), some (.int (nI i)), some (.int (nI (an_person z i 2))), some (.int (nI j)), some (.int (nI c)), some (.int (nI n)), some (.int (nI (f k))), some (.int (nI (w k))), some (.int (nI k)), some (.int (nI (10 * s + 1))), some (.int (nI s))]) (hd := dL_holds_165) (hn := by decide) (hok := rfl) (hls := rfl) ?_
                  refine mx_iload (i := 15) (hl := rfl) (hd := dL_holds_167) ?_
                  refine mx_ifN_lt 202 dL_holds_169 (by decide) (by omega) (fun c169 => ?_) (fun c169 => ?_)
                  · skip
                    exact absurd c169 (Nat.not_lt_zero _)
                  · skip
                    refine mx_aload_n (i := 0) (hi := rfl) (hl := rfl) (hd := dL_holds_172) ?_
                    refine mx_iconstN 3 dL_holds_173 (by decide) ?_
                    refine mx_iload (i := 16) (hl := rfl) (hd := dL_holds_174) ?_
                    refine mx_iload (i := 15) (hl := rfl) (hd := dL_holds_176) ?_
                    refine mx_bipushN 10 dL_holds_178 (by decide) ?_
                    refine mx_iremN dL_holds_180 (by omega) (by decide) ?_
                    refine mx_top (y := nI 1) (congrArg nI (by omega)) ?_
                    refine mx_if1_ne 188 dL_holds_181 (by decide) ?_
                    refine mx_iconstN 2 dL_holds_188 (by decide) ?_
                    refine mx_iconstN 0 dL_holds_189 (by decide) ?_
                    refine mx_callSp (As := [.ref a, .int (nI 3), .int (nI s), .int (nI 2), .int (nI 0)]) (rest := []) dL_holds_190 (lc_stepT G3 I6 a z hW6 s 2 hs (by decide) (nI 0)) km_L_call rfl k_664 k_665 rfl rfl (Nat.le_of_ble_eq_true rfl) (by decide) ?_
                    refine mx_top (y := nI (w k)) (by rw [← hb]; rfl) ?_
                    refine mx_iload (i := 13) (hl := rfl) (hd := dL_holds_193) ?_
                    refine mx_cmpN_ne 202 dL_holds_195 (by decide) (by omega) (by omega) (fun c195 => ?_) (fun c195 => ?_)
                    · skip
                      exact absurd rfl c195
                    · skip
                      refine mx_iconstN 1 dL_holds_198 (by decide) ?_
                      refine mx_goto (tgt := 203) dL_holds_199 (by decide) ?_
                      refine mx_istoreE (i := 6) (ls' := [some (.ref a), some (.int (nI x)), some (.int (nI (gP (zG z)))), some (.int (nI (gN (zG z)))), some (.int (nI pr)), some (.int gr), some (.int (nI 1)), some (.int (nI i)), some (.int (nI (an_person z i 2))), some (.int (nI j)), some (.int (nI c)), some (.int (nI n)), some (.int (nI (f k))), some (.int (nI (w k))), some (.int (nI k)), some (.int (nI (10 * s + 1))), some (.int (nI s))]) (hd := dL_holds_203) (hn := by decide) (hok := rfl) (hls := rfl) ?_
                      refine mx_iload (i := 6) (hl := rfl) (hd := dL_holds_205) ?_
                      refine mx_if1_eq 234 dL_holds_207 (by decide) ?_
                      refine mx_aload_n (i := 0) (hi := rfl) (hl := rfl) (hd := dL_holds_210) ?_
                      refine mx_iconstN 3 dL_holds_211 (by decide) ?_
                      refine mx_iload (i := 16) (hl := rfl) (hd := dL_holds_212) ?_
                      refine mx_iload (i := 15) (hl := rfl) (hd := dL_holds_214) ?_
                      refine mx_bipushN 10 dL_holds_216 (by decide) ?_
                      refine mx_iremN dL_holds_218 (by omega) (by decide) ?_
                      refine mx_top (y := nI 1) (congrArg nI (by omega)) ?_
                      refine mx_if1_ne 226 dL_holds_219 (by decide) ?_
                      refine mx_iconstN 0 dL_holds_226 (by decide) ?_
                      refine mx_iconstN 0 dL_holds_227 (by decide) ?_
                      refine mx_callSp (As := [.ref a, .int (nI 3), .int (nI s), .int (nI 0), .int (nI 0)]) (rest := []) dL_holds_228 (lc_stepT G3 I6 a z hW6 s 0 hs (by decide) (nI 0)) km_L_call rfl k_664 k_665 rfl rfl (Nat.le_of_ble_eq_true rfl) (by decide) ?_
                      refine mx_top (y := nI (w (k + 1))) (by rw [← he]; rfl) ?_
                      refine mx_goto (tgt := 236) dL_holds_231 (by decide) ?_
                      refine mx_istoreE (i := 13) (ls' := [some (.ref a), some (.int (nI x)), some (.int (nI (gP (zG z)))), some (.int (nI (gN (zG z)))), some (.int (nI pr)), some (.int gr), some (.int (nI 1)), some (.int (nI i)), some (.int (nI (an_person z i 2))), some (.int (nI j)), some (.int (nI c)), some (.int (nI n)), some (.int (nI (f k))), some (.int (nI (w (k + 1)))), some (.int (nI k)), some (.int (nI (10 * s + 1))), some (.int (nI s))]) (hd := dL_holds_236) (hn := by decide) (hok := rfl) (hls := rfl) ?_
                      refine mx_iload (i := 12) (hl := rfl) (hd := dL_holds_238) ?_
                      refine mx_iload (i := 6) (hl := rfl) (hd := dL_holds_240) ?_
                      refine mx_if1_eq 257 dL_holds_242 (by decide) ?_
                      refine mx_aload_n (i := 0) (hi := rfl) (hl := rfl) (hd := dL_holds_245) ?_
                      refine mx_iconstN 3 dL_holds_246 (by decide) ?_
                      refine mx_iload (i := 16) (hl := rfl) (hd := dL_holds_247) ?_
                      refine mx_iconstN 3 dL_holds_249 (by decide) ?_
                      refine mx_iconstN 0 dL_holds_250 (by decide) ?_
                      refine mx_callSp (As := [.ref a, .int (nI 3), .int (nI s), .int (nI 3), .int (nI 0)]) (rest := [.int (nI (f k))]) dL_holds_251 (lc_stepT G3 I6 a z hW6 s 3 hs (by decide) (nI 0)) km_L_call rfl k_664 k_665 rfl rfl (Nat.le_of_ble_eq_true rfl) (by decide) ?_
                      refine mx_top (y := nI (gC (zG z) s)) (rfl) ?_
                      refine mx_goto (tgt := 258) dL_holds_254 (by decide) ?_
                      refine mx_iaddN dL_holds_258 ?_
                      refine mx_top (y := nI (f (k + 1))) (congrArg nI hf1.symm) ?_
                      refine mx_istoreE (i := 12) (ls' := [some (.ref a), some (.int (nI x)), some (.int (nI (gP (zG z)))), some (.int (nI (gN (zG z)))), some (.int (nI pr)), some (.int gr), some (.int (nI 1)), some (.int (nI i)), some (.int (nI (an_person z i 2))), some (.int (nI j)), some (.int (nI c)), some (.int (nI n)), some (.int (nI (f (k + 1)))), some (.int (nI (w (k + 1)))), some (.int (nI k)), some (.int (nI (10 * s + 1))), some (.int (nI s))]) (hd := dL_holds_259) (hn := by decide) (hok := rfl) (hls := rfl) ?_
                      refine mx_iincE (i := 14) (ls' := [some (.ref a), some (.int (nI x)), some (.int (nI (gP (zG z)))), some (.int (nI (gN (zG z)))), some (.int (nI pr)), some (.int gr), some (.int (nI 1)), some (.int (nI i)), some (.int (nI (an_person z i 2))), some (.int (nI j)), some (.int (nI c)), some (.int (nI n)), some (.int (nI (f (k + 1)))), some (.int (nI (w (k + 1)))), some (.int (nI (k + 1))), some (.int (nI (10 * s + 1))), some (.int (nI s))]) 1 dL_holds_261 rfl (by decide) (by decide) rfl rfl ?_
                      refine mx_goto (tgt := 134) dL_holds_264 (by decide) ?_
                      refine mx_leS (ls' := [some (.ref a), some (.int (nI x)), some (.int (nI (gP (zG z)))), some (.int (nI (gN (zG z)))), some (.int (nI pr)), some (.int gr), some (.int (nI 1)), some (.int (nI i)), some (.int (nI (an_person z i 2))), some (.int (nI j)), some (.int (nI c)), some (.int (nI n)), some (.int (nI (f (k + 1)))), some (.int (nI (w (k + 1)))), some (.int (nI (k + 1))), none, none]) ⟨rfl, rfl, rfl, rfl, rfl, rfl, rfl, rfl, rfl, rfl, rfl, rfl, rfl, rfl, rfl, trivial⟩ ?_
                      exact ih3 (k + 1) n c w f pr gr _ _ (by omega) (by omega) hn hc hB hH hf2 hpr hgr hjP hA6
          refine mx_iload (i := 9) (hl := rfl) (hd := dL_holds_56) ?_
          refine mx_iload_n (i := 2) (hi := rfl) (hl := rfl) (hd := dL_holds_58) ?_
          refine mx_cmpN_ge 419 dL_holds_59 (by decide) (by omega) (by omega) (fun c59 => ?_) (fun c59 => ?_)
          · skip
            refine mx_wk (bc' := 82 * (gP (zG z) - (i + 1)) + 20) (bs' := 492 * (gP (zG z) - (i + 1)) + 120) (by omega) (by omega) ?_
            have ejP : j = gP (zG z) := by omega
            rw [ejP, xP_row]
            refine mx_iincE (i := 7) (ls' := [some (.ref a), some (.int (nI x)), some (.int (nI (gP (zG z)))), some (.int (nI (gN (zG z)))), some (.int (nI ((xP (zG z) (vA (zX z)) (i + 1) 0).1))), some (.int (oI (xP (zG z) (vA (zX z)) (i + 1) 0).2)), some (.int (nI 1)), some (.int (nI (i + 1))), some (.int (nI (an_person z i 2))), some (.int (nI (gP (zG z)))), none, none, none, none, none, none, none]) 1 dL_holds_419 rfl (by decide) (by decide) rfl rfl ?_
            refine mx_goto (tgt := 31) dL_holds_422 (by decide) ?_
            refine mx_leS (ls' := [some (.ref a), some (.int (nI x)), some (.int (nI (gP (zG z)))), some (.int (nI (gN (zG z)))), some (.int (nI ((xP (zG z) (vA (zX z)) (i + 1) 0).1))), some (.int (oI (xP (zG z) (vA (zX z)) (i + 1) 0).2)), some (.int (nI 1)), some (.int (nI (i + 1))), none, none, none, none, none, none, none, none, none]) ⟨rfl, rfl, rfl, rfl, rfl, rfl, rfl, rfl, trivial⟩ ?_
            exact ih (i + 1) _ _ (by omega) (by omega) hA2
          · skip
            refine mx_iload (i := 6) (hl := rfl) (hd := dL_holds_62) ?_
            refine mx_if1_eq 419 dL_holds_64 (by decide) ?_
            refine mx_wk (bc' := 10 * (gP (zG z) - (j + 1)) + 82 * (gP (zG z) - (i + 1)) + 20 + 10) (bs' := 60 * (gP (zG z) - (j + 1)) + 492 * (gP (zG z) - (i + 1)) + 120 + 60) (by omega) (by omega) ?_
            have hjP : j < gP (zG z) := by omega
            have hx1 : (xP (zG z) (vA (zX z)) i j).1 < 2 ^ 31 := by have := xP_le (v := zG z) (A := vA (zX z)) i j (by omega); have : gP (zG z) * i ≤ 8 * 8 := Nat.mul_le_mul hP8 (by omega); omega
            have hx2 : ∀ z9, (xP (zG z) (vA (zX z)) i j).2 = some z9 → z9 < 2 ^ 31 := xP_lt hv.1 hv.2.1 i j (Or.inl (by omega)) (by omega)
            cases hB : bR (zG z) (vA (zX z)) (gC (zG z)) (tgA (vA (zX z)) j) i 0 with
            | none =>
              have hc31 : ∀ z9, (none : Option Nat) = some z9 → z9 < 2 ^ 31 := fun z9 h9 => nomatch h9
              refine mx_aload_n (i := 0) (hi := rfl) (hl := rfl) (hd := dL_holds_67) ?_
              refine mx_bipushN 14 dL_holds_68 (by decide) ?_
              refine mx_iload (i := 7) (hl := rfl) (hd := dL_holds_70) ?_
              refine mx_iload (i := 9) (hl := rfl) (hd := dL_holds_72) ?_
              refine mx_iconstN 0 dL_holds_74 (by decide) ?_
              refine mx_callS (bc := 10 * (gP (zG z) - (j + 1)) + 82 * (gP (zG z) - (i + 1)) + 20 + 9) (bs := 60 * (gP (zG z) - (j + 1)) + 492 * (gP (zG z) - (i + 1)) + 120 + 54) (As := [.ref a, .int (nI 14), .int (nI i), .int (nI j), .int (nI 0)]) (rest := []) (b1 := 1) (b2 := 6) dL_holds_75 (lc_cost G2 I2 a z hW2 (nI i) (nI j) (nI 0)) km_L_call rfl k_664 k_665 rfl rfl (Nat.le_of_ble_eq_true rfl) (by decide) (fun _ _ _ q => q.elim) (fun r13 G7 I7 h14 => ?_)
              obtain ⟨e9, hQ7⟩ := h14
              rw [tv_0 (fl2_0 hP8 hiP hjP : fl_two z (nI i) (nI j) = 0)] at e9
              rw [show oI (an_cost z (nI i).toInt.toNat (nI j).toInt.toNat) = (-9) from by rw [nI_tt (by omega), nI_tt (by omega), co_B hv hiP hjP, hB]; rfl] at e9
              subst e9
              have hA7 := hA2.tr hQ7
              have hW7 := hQ7.1
              refine mx_istoreE (i := 10) (ls' := [some (.ref a), some (.int (nI x)), some (.int (nI (gP (zG z)))), some (.int (nI (gN (zG z)))), some (.int (nI ((xP (zG z) (vA (zX z)) i j).1))), some (.int (oI (xP (zG z) (vA (zX z)) i j).2)), some (.int (nI 1)), some (.int (nI i)), some (.int (nI (an_person z i 2))), some (.int (nI j)), some (.int (-9)), none, none, none, none, none, none]) (hd := dL_holds_78) (hn := by decide) (hok := rfl) (hls := rfl) ?_
              refine mx_aload_n (i := 0) (hi := rfl) (hl := rfl) (hd := dL_holds_80) ?_
              refine mx_bipushN 15 dL_holds_81 (by decide) ?_
              refine mx_iload (i := 7) (hl := rfl) (hd := dL_holds_83) ?_
              refine mx_iload (i := 9) (hl := rfl) (hd := dL_holds_85) ?_
              refine mx_iconstN 0 dL_holds_87 (by decide) ?_
              refine mx_callS (bc := 10 * (gP (zG z) - (j + 1)) + 82 * (gP (zG z) - (i + 1)) + 20 + 8) (bs := 60 * (gP (zG z) - (j + 1)) + 492 * (gP (zG z) - (i + 1)) + 120 + 48) (As := [.ref a, .int (nI 15), .int (nI i), .int (nI j), .int (nI 0)]) (rest := []) (b1 := 1) (b2 := 6) dL_holds_88 (lc_length G7 I7 a z hW7 (nI i) (nI j) (nI 0)) km_L_call rfl k_664 k_665 rfl rfl (Nat.le_of_ble_eq_true rfl) (by decide) (fun _ _ _ q => q.elim) (fun r15 G8 I8 h16 => ?_)
              obtain ⟨e9, hQ8⟩ := h16
              rw [tv_0 (fl2_0 hP8 hiP hjP : fl_two z (nI i) (nI j) = 0)] at e9
              rw [show oI (an_length z (nI i).toInt.toNat (nI j).toInt.toNat) = (-9) from by rw [nI_tt (by omega), nI_tt (by omega), le_B hv hiP hjP, hB]; rfl] at e9
              subst e9
              have hA8 := hA7.tr hQ8
              have hW8 := hQ8.1
              refine mx_istoreE (i := 11) (ls' := [some (.ref a), some (.int (nI x)), some (.int (nI (gP (zG z)))), some (.int (nI (gN (zG z)))), some (.int (nI ((xP (zG z) (vA (zX z)) i j).1))), some (.int (oI (xP (zG z) (vA (zX z)) i j).2)), some (.int (nI 1)), some (.int (nI i)), some (.int (nI (an_person z i 2))), some (.int (nI j)), some (.int (-9)), some (.int (-9)), none, none, none, none, none]) (hd := dL_holds_91) (hn := by decide) (hok := rfl) (hls := rfl) ?_
              refine mx_iload (i := 4) (hl := rfl) (hd := dL_holds_93) ?_
              refine mx_iload (i := 10) (hl := rfl) (hd := dL_holds_95) ?_
              refine mx_ifR_lt 104 dL_holds_97 (by decide) (fun c97 => ?_) (fun c97 => ?_)
              · skip
                
                refine mx_iconstN 0 dL_holds_104 (by decide) ?_
                refine mx_iaddN dL_holds_105 ?_
                refine mx_top (y := nI ((xP (zG z) (vA (zX z)) i (j + 1)).1)) (congrArg nI (by rw [xP_1, if_pos hB])) ?_
                refine mx_istoreE (i := 4) (ls' := [some (.ref a), some (.int (nI x)), some (.int (nI (gP (zG z)))), some (.int (nI (gN (zG z)))), some (.int (nI ((xP (zG z) (vA (zX z)) i (j + 1)).1))), some (.int (oI (xP (zG z) (vA (zX z)) i j).2)), some (.int (nI 1)), some (.int (nI i)), some (.int (nI (an_person z i 2))), some (.int (nI j)), some (.int (-9)), some (.int (-9)), none, none, none, none, none]) (hd := dL_holds_106) (hn := by decide) (hok := rfl) (hls := rfl) ?_
                refine mx_iload (i := 10) (hl := rfl) (hd := dL_holds_108) ?_
                refine mx_top (y := oI (none)) (rfl) ?_
                refine mx_iload (i := 5) (hl := rfl) (hd := dL_holds_110) ?_
                refine mx_cmpR_le 120 dL_holds_112 (by decide) (fun c112 => ?_) (fun c112 => ?_)
                · skip
                  refine mx_iload (i := 5) (hl := rfl) (hd := dL_holds_120) ?_
                  refine mx_top (y := oI (xP (zG z) (vA (zX z)) i (j + 1)).2) (by rw [xP_2, hB]; exact gr_le hx2 hc31 c112) ?_
                  refine mx_istoreE (i := 5) (ls' := [some (.ref a), some (.int (nI x)), some (.int (nI (gP (zG z)))), some (.int (nI (gN (zG z)))), some (.int (nI ((xP (zG z) (vA (zX z)) i (j + 1)).1))), some (.int (oI (xP (zG z) (vA (zX z)) i (j + 1)).2)), some (.int (nI 1)), some (.int (nI i)), some (.int (nI (an_person z i 2))), some (.int (nI j)), some (.int (-9)), some (.int (-9)), none, none, none, none, none]) (hd := dL_holds_122) (hn := by decide) (hok := rfl) (hls := rfl) ?_
                  refine mx_iconstN 0 dL_holds_124 (by decide) ?_
                  refine mx_istoreE (i := 12) (ls' := [some (.ref a), some (.int (nI x)), some (.int (nI (gP (zG z)))), some (.int (nI (gN (zG z)))), some (.int (nI ((xP (zG z) (vA (zX z)) i (j + 1)).1))), some (.int (oI (xP (zG z) (vA (zX z)) i (j + 1)).2)), some (.int (nI 1)), some (.int (nI i)), some (.int (nI (an_person z i 2))), some (.int (nI j)), some (.int (-9)), some (.int (-9)), some (.int (nI 0)), none, none, none, none]) (hd := dL_holds_125) (hn := by decide) (hok := rfl) (hls := rfl) ?_
                  refine mx_iload (i := 7) (hl := rfl) (hd := dL_holds_127) ?_
                  refine mx_istoreE (i := 13) (ls' := [some (.ref a), some (.int (nI x)), some (.int (nI (gP (zG z)))), some (.int (nI (gN (zG z)))), some (.int (nI ((xP (zG z) (vA (zX z)) i (j + 1)).1))), some (.int (oI (xP (zG z) (vA (zX z)) i (j + 1)).2)), some (.int (nI 1)), some (.int (nI i)), some (.int (nI (an_person z i 2))), some (.int (nI j)), some (.int (-9)), some (.int (-9)), some (.int (nI 0)), some (.int (nI i)), none, none, none]) (hd := dL_holds_129) (hn := by decide) (hok := rfl) (hls := rfl) ?_
                  refine mx_iconstN 0 dL_holds_131 (by decide) ?_
                  refine mx_istoreE (i := 14) (ls' := [some (.ref a), some (.int (nI x)), some (.int (nI (gP (zG z)))), some (.int (nI (gN (zG z)))), some (.int (nI ((xP (zG z) (vA (zX z)) i (j + 1)).1))), some (.int (oI (xP (zG z) (vA (zX z)) i (j + 1)).2)), some (.int (nI 1)), some (.int (nI i)), some (.int (nI (an_person z i 2))), some (.int (nI j)), some (.int (-9)), some (.int (-9)), some (.int (nI 0)), some (.int (nI i)), some (.int (nI 0)), none, none]) (hd := dL_holds_132) (hn := by decide) (hok := rfl) (hls := rfl) ?_
                  refine mx_iload (i := 14) (hl := rfl) (hd := dL_holds_134) ?_
                  refine mx_iload (i := 11) (hl := rfl) (hd := dL_holds_136) ?_
                  refine mx_cmpNR_ge 267 dL_holds_138 (by decide) (by omega) (fun c138 => ?_) (fun c138 => ?_)
                  · skip
                    have hs2 : an_person z i 2 < 2 ^ 31 := Nat.lt_trans (an_p2 hv i) (by decide)
                    have hs3 : an_person z j 3 < 2 ^ 31 := Nat.lt_trans (an_p3 hv j) (by decide)
                    have hb1 : an_paths z i j 1 < 2 ^ 31 := Nat.lt_of_le_of_lt (pa_b hv i j 1) (by decide)
                    have hb2 : an_paths z i j 2 < 2 ^ 31 := Nat.lt_of_le_of_lt (pa_b hv i j 2) (by decide)
                    have hb3 : an_paths z i j 3 < 2 ^ 31 := Nat.lt_of_le_of_lt (pa_b hv i j 3) (by decide)
                    refine mx_iload (i := 6) (hl := rfl) (hd := dL_holds_267) ?_
                    refine mx_if1_eq 410 dL_holds_269 (by decide) ?_
                    refine mx_iload (i := 8) (hl := rfl) (hd := dL_holds_272) ?_
                    refine mx_iload (i := 9) (hl := rfl) (hd := dL_holds_274) ?_
                    refine mx_ishrN dL_holds_276 (by omega) (by omega) ?_
                    refine mx_iconstN 1 dL_holds_277 (by decide) ?_
                    refine mx_iandN dL_holds_278 ?_
                    refine mx_top (mx_bit _ _) ?_
                    refine mx_top (y := nI 0) ((mx_bF (fun q => (s2_B hv hiP hjP).mp q hB)).symm) ?_
                    refine mx_iconstN 1 dL_holds_279 (by decide) ?_
                    refine mx_cmpN_ne 287 dL_holds_280 (by decide) (by omega) (by omega) (fun c280 => ?_) (fun c280 => ?_)
                    · skip
                      refine mx_iconstN 0 dL_holds_287 (by decide) ?_
                      refine mx_iload (i := 10) (hl := rfl) (hd := dL_holds_288) ?_
                      refine mx_ifR_lt 297 dL_holds_290 (by decide) (fun c290 => ?_) (fun c290 => ?_)
                      · skip
                        
                        refine mx_iconstN 0 dL_holds_297 (by decide) ?_
                        refine mx_cmpN_ne 410 dL_holds_298 (by decide) (by omega) (by omega) (fun c298 => ?_) (fun c298 => ?_)
                        · skip
                          exact absurd c298 (by decide)
                        · skip
                          refine mx_aload_n (i := 0) (hi := rfl) (hl := rfl) (hd := dL_holds_301) ?_
                          refine mx_iconstN 4 dL_holds_302 (by decide) ?_
                          refine mx_iload (i := 9) (hl := rfl) (hd := dL_holds_303) ?_
                          refine mx_iconstN 3 dL_holds_305 (by decide) ?_
                          refine mx_iconstN 0 dL_holds_306 (by decide) ?_
                          refine mx_callS (bc := 10 * (gP (zG z) - (j + 1)) + 82 * (gP (zG z) - (i + 1)) + 20 + 6) (bs := 60 * (gP (zG z) - (j + 1)) + 492 * (gP (zG z) - (i + 1)) + 120 + 36) (As := [.ref a, .int (nI 4), .int (nI j), .int (nI 3), .int (nI 0)]) (rest := []) (b1 := 2) (b2 := 12) dL_holds_307 (lc_person G8 I8 a z hW8 (nI j) (nI 3) (nI 0)) km_L_call rfl k_664 k_665 rfl rfl (Nat.le_of_ble_eq_true rfl) (by decide) (fun _ _ _ q => q.elim) (fun r17 G9 I9 h18 => ?_)
                          obtain ⟨e9, hQ9⟩ := h18
                          rw [tv_0 (flp_0 hP8 hjP (by decide) : fl_person z (nI j) (nI 3) = 0)] at e9
                          rw [show nI (an_person z (nI j).toInt.toNat (nI 3).toInt.toNat) = nI (an_person z j 3) from by rw [nI_tt (by omega), nI_tt (by decide)]] at e9
                          subst e9
                          have hA9 := hA8.tr hQ9
                          have hW9 := hQ9.1
                          refine mx_iload (i := 7) (hl := rfl) (hd := dL_holds_310) ?_
                          refine mx_ishrN dL_holds_312 (by omega) (by omega) ?_
                          refine mx_iconstN 1 dL_holds_313 (by decide) ?_
                          refine mx_iandN dL_holds_314 ?_
                          refine mx_top (mx_bit _ _) ?_
                          refine mx_top (y := nI 0) ((mx_bF (fun q => (s3_B hv hiP hjP).mp q hB)).symm) ?_
                          refine mx_iconstN 1 dL_holds_315 (by decide) ?_
                          refine mx_cmpN_ne 323 dL_holds_316 (by decide) (by omega) (by omega) (fun c316 => ?_) (fun c316 => ?_)
                          · skip
                            refine mx_iconstN 0 dL_holds_323 (by decide) ?_
                            refine mx_iload (i := 10) (hl := rfl) (hd := dL_holds_324) ?_
                            refine mx_ifR_lt 333 dL_holds_326 (by decide) (fun c326 => ?_) (fun c326 => ?_)
                            · skip
                              
                              refine mx_iconstN 0 dL_holds_333 (by decide) ?_
                              refine mx_cmpN_ne 410 dL_holds_334 (by decide) (by omega) (by omega) (fun c334 => ?_) (fun c334 => ?_)
                              · skip
                                exact absurd c334 (by decide)
                              · skip
                                refine mx_iload (i := 10) (hl := rfl) (hd := dL_holds_337) ?_
                                refine mx_ifR_lt 356 dL_holds_339 (by decide) (fun c339 => ?_) (fun c339 => ?_)
                                · skip
                                  
                                  refine mx_aload_n (i := 0) (hi := rfl) (hl := rfl) (hd := dL_holds_356) ?_
                                  refine mx_bipushN 17 dL_holds_357 (by decide) ?_
                                  refine mx_iload (i := 7) (hl := rfl) (hd := dL_holds_359) ?_
                                  refine mx_iload (i := 9) (hl := rfl) (hd := dL_holds_361) ?_
                                  refine mx_iconstN 1 dL_holds_363 (by decide) ?_
                                  refine mx_callS (bc := 10 * (gP (zG z) - (j + 1)) + 82 * (gP (zG z) - (i + 1)) + 20 + 4) (bs := 60 * (gP (zG z) - (j + 1)) + 492 * (gP (zG z) - (i + 1)) + 120 + 24) (As := [.ref a, .int (nI 17), .int (nI i), .int (nI j), .int (nI 1)]) (rest := []) (b1 := 2) (b2 := 12) dL_holds_364 (lc_paths G9 I9 a z hW9 (nI i) (nI j) (nI 1)) km_L_call rfl k_664 k_665 rfl rfl (Nat.le_of_ble_eq_true rfl) (by decide) (fun _ _ _ q => q.elim) (fun r19 G10 I10 h20 => ?_)
                                  obtain ⟨e9, hQ10⟩ := h20
                                  rw [tv_0 (flq_0 hP8 hiP hjP (by decide) : fl_paths z (nI i) (nI j) (nI 1) = 0)] at e9
                                  rw [show nI (an_paths z (nI i).toInt.toNat (nI j).toInt.toNat (nI 1).toInt.toNat) = nI (an_paths z i j 1) from by rw [nI_tt (by omega), nI_tt (by omega), nI_tt (by decide)]] at e9
                                  subst e9
                                  have hA10 := hA9.tr hQ10
                                  have hW10 := hQ10.1
                                  refine mx_aload_n (i := 0) (hi := rfl) (hl := rfl) (hd := dL_holds_367) ?_
                                  refine mx_bipushN 17 dL_holds_368 (by decide) ?_
                                  refine mx_iload (i := 7) (hl := rfl) (hd := dL_holds_370) ?_
                                  refine mx_iload (i := 9) (hl := rfl) (hd := dL_holds_372) ?_
                                  refine mx_iconstN 2 dL_holds_374 (by decide) ?_
                                  refine mx_callS (bc := 10 * (gP (zG z) - (j + 1)) + 82 * (gP (zG z) - (i + 1)) + 20 + 2) (bs := 60 * (gP (zG z) - (j + 1)) + 492 * (gP (zG z) - (i + 1)) + 120 + 12) (As := [.ref a, .int (nI 17), .int (nI i), .int (nI j), .int (nI 2)]) (rest := [.int (nI (an_paths z i j 1))]) (b1 := 2) (b2 := 12) dL_holds_375 (lc_paths G10 I10 a z hW10 (nI i) (nI j) (nI 2)) km_L_call rfl k_664 k_665 rfl rfl (Nat.le_of_ble_eq_true rfl) (by decide) (fun _ _ _ q => q.elim) (fun r21 G11 I11 h22 => ?_)
                                  obtain ⟨e9, hQ11⟩ := h22
                                  rw [tv_0 (flq_0 hP8 hiP hjP (by decide) : fl_paths z (nI i) (nI j) (nI 2) = 0)] at e9
                                  rw [show nI (an_paths z (nI i).toInt.toNat (nI j).toInt.toNat (nI 2).toInt.toNat) = nI (an_paths z i j 2) from by rw [nI_tt (by omega), nI_tt (by omega), nI_tt (by decide)]] at e9
                                  subst e9
                                  have hA11 := hA10.tr hQ11
                                  have hW11 := hQ11.1
                                  refine mx_cmpN_gt 410 dL_holds_378 (by decide) (hb1) (hb2) (fun c378 => ?_) (fun c378 => ?_)
                                  · skip
                                    exact absurd (show an_paths z i j 1 ≤ an_paths z i j 2 from pa_up z i j 1) (by omega)
                                  · skip
                                    refine mx_iload (i := 10) (hl := rfl) (hd := dL_holds_381) ?_
                                    refine mx_ifR_lt 406 dL_holds_383 (by decide) (fun c383 => ?_) (fun c383 => ?_)
                                    · skip
                                      
                                      refine mx_iconstN 1 dL_holds_406 (by decide) ?_
                                      refine mx_goto (tgt := 411) dL_holds_407 (by decide) ?_
                                      refine mx_istoreE (i := 6) (ls' := [some (.ref a), some (.int (nI x)), some (.int (nI (gP (zG z)))), some (.int (nI (gN (zG z)))), some (.int (nI ((xP (zG z) (vA (zX z)) i (j + 1)).1))), some (.int (oI (xP (zG z) (vA (zX z)) i (j + 1)).2)), some (.int (nI 1)), some (.int (nI i)), some (.int (nI (an_person z i 2))), some (.int (nI j)), some (.int (-9)), some (.int (-9)), some (.int (nI 0)), some (.int (nI i)), some (.int (nI 0)), none, none]) (hd := dL_holds_411) (hn := by decide) (hok := rfl) (hls := rfl) ?_
                                      refine mx_wk (bc' := 10 * (gP (zG z) - (j + 1)) + 82 * (gP (zG z) - (i + 1)) + 20) (bs' := 60 * (gP (zG z) - (j + 1)) + 492 * (gP (zG z) - (i + 1)) + 120) (by omega) (by omega) ?_
                                      refine mx_iincE (i := 9) (ls' := [some (.ref a), some (.int (nI x)), some (.int (nI (gP (zG z)))), some (.int (nI (gN (zG z)))), some (.int (nI ((xP (zG z) (vA (zX z)) i (j + 1)).1))), some (.int (oI (xP (zG z) (vA (zX z)) i (j + 1)).2)), some (.int (nI 1)), some (.int (nI i)), some (.int (nI (an_person z i 2))), some (.int (nI (j + 1))), some (.int (-9)), some (.int (-9)), some (.int (nI 0)), some (.int (nI i)), some (.int (nI 0)), none, none]) 1 dL_holds_413 rfl (by decide) (by decide) rfl rfl ?_
                                      refine mx_goto (tgt := 56) dL_holds_416 (by decide) ?_
                                      refine mx_leS (ls' := [some (.ref a), some (.int (nI x)), some (.int (nI (gP (zG z)))), some (.int (nI (gN (zG z)))), some (.int (nI ((xP (zG z) (vA (zX z)) i (j + 1)).1))), some (.int (oI (xP (zG z) (vA (zX z)) i (j + 1)).2)), some (.int (nI 1)), some (.int (nI i)), some (.int (nI (an_person z i 2))), some (.int (nI (j + 1))), none, none, none, none, none, none, none]) ⟨rfl, rfl, rfl, rfl, rfl, rfl, rfl, rfl, rfl, rfl, trivial⟩ ?_
                                      exact ih2 (j + 1) _ _ (by omega) (by omega) hiP hA11
                                    · skip
                                      exact absurd (by decide) c383
                                · skip
                                  exact absurd (by decide) c339
                            · skip
                              exact absurd (by decide) c326
                          · skip
                            exact absurd c316 (by decide)
                      · skip
                        exact absurd (by decide) c290
                    · skip
                      exact absurd c280 (by decide)
                  · skip
                    exact absurd (by decide) c138
                · skip
                  refine mx_iload (i := 10) (hl := rfl) (hd := dL_holds_115) ?_
                  refine mx_top (y := oI (xP (zG z) (vA (zX z)) i (j + 1)).2) (by rw [xP_2, hB]; exact gr_gt hx2 hc31 c112) ?_
                  refine mx_goto (tgt := 122) dL_holds_117 (by decide) ?_
                  refine mx_istoreE (i := 5) (ls' := [some (.ref a), some (.int (nI x)), some (.int (nI (gP (zG z)))), some (.int (nI (gN (zG z)))), some (.int (nI ((xP (zG z) (vA (zX z)) i (j + 1)).1))), some (.int (oI (xP (zG z) (vA (zX z)) i (j + 1)).2)), some (.int (nI 1)), some (.int (nI i)), some (.int (nI (an_person z i 2))), some (.int (nI j)), some (.int (-9)), some (.int (-9)), none, none, none, none, none]) (hd := dL_holds_122) (hn := by decide) (hok := rfl) (hls := rfl) ?_
                  refine mx_iconstN 0 dL_holds_124 (by decide) ?_
                  refine mx_istoreE (i := 12) (ls' := [some (.ref a), some (.int (nI x)), some (.int (nI (gP (zG z)))), some (.int (nI (gN (zG z)))), some (.int (nI ((xP (zG z) (vA (zX z)) i (j + 1)).1))), some (.int (oI (xP (zG z) (vA (zX z)) i (j + 1)).2)), some (.int (nI 1)), some (.int (nI i)), some (.int (nI (an_person z i 2))), some (.int (nI j)), some (.int (-9)), some (.int (-9)), some (.int (nI 0)), none, none, none, none]) (hd := dL_holds_125) (hn := by decide) (hok := rfl) (hls := rfl) ?_
                  refine mx_iload (i := 7) (hl := rfl) (hd := dL_holds_127) ?_
                  refine mx_istoreE (i := 13) (ls' := [some (.ref a), some (.int (nI x)), some (.int (nI (gP (zG z)))), some (.int (nI (gN (zG z)))), some (.int (nI ((xP (zG z) (vA (zX z)) i (j + 1)).1))), some (.int (oI (xP (zG z) (vA (zX z)) i (j + 1)).2)), some (.int (nI 1)), some (.int (nI i)), some (.int (nI (an_person z i 2))), some (.int (nI j)), some (.int (-9)), some (.int (-9)), some (.int (nI 0)), some (.int (nI i)), none, none, none]) (hd := dL_holds_129) (hn := by decide) (hok := rfl) (hls := rfl) ?_
                  refine mx_iconstN 0 dL_holds_131 (by decide) ?_
                  refine mx_istoreE (i := 14) (ls' := [some (.ref a), some (.int (nI x)), some (.int (nI (gP (zG z)))), some (.int (nI (gN (zG z)))), some (.int (nI ((xP (zG z) (vA (zX z)) i (j + 1)).1))), some (.int (oI (xP (zG z) (vA (zX z)) i (j + 1)).2)), some (.int (nI 1)), some (.int (nI i)), some (.int (nI (an_person z i 2))), some (.int (nI j)), some (.int (-9)), some (.int (-9)), some (.int (nI 0)), some (.int (nI i)), some (.int (nI 0)), none, none]) (hd := dL_holds_132) (hn := by decide) (hok := rfl) (hls := rfl) ?_
                  refine mx_iload (i := 14) (hl := rfl) (hd := dL_holds_134) ?_
                  refine mx_iload (i := 11) (hl := rfl) (hd := dL_holds_136) ?_
                  refine mx_cmpNR_ge 267 dL_holds_138 (by decide) (by omega) (fun c138 => ?_) (fun c138 => ?_)
                  · skip
                    have hs2 : an_person z i 2 < 2 ^ 31 := Nat.lt_trans (an_p2 hv i) (by decide)
                    have hs3 : an_person z j 3 < 2 ^ 31 := Nat.lt_trans (an_p3 hv j) (by decide)
                    have hb1 : an_paths z i j 1 < 2 ^ 31 := Nat.lt_of_le_of_lt (pa_b hv i j 1) (by decide)
                    have hb2 : an_paths z i j 2 < 2 ^ 31 := Nat.lt_of_le_of_lt (pa_b hv i j 2) (by decide)
                    have hb3 : an_paths z i j 3 < 2 ^ 31 := Nat.lt_of_le_of_lt (pa_b hv i j 3) (by decide)
                    refine mx_iload (i := 6) (hl := rfl) (hd := dL_holds_267) ?_
                    refine mx_if1_eq 410 dL_holds_269 (by decide) ?_
                    refine mx_iload (i := 8) (hl := rfl) (hd := dL_holds_272) ?_
                    refine mx_iload (i := 9) (hl := rfl) (hd := dL_holds_274) ?_
                    refine mx_ishrN dL_holds_276 (by omega) (by omega) ?_
                    refine mx_iconstN 1 dL_holds_277 (by decide) ?_
                    refine mx_iandN dL_holds_278 ?_
                    refine mx_top (mx_bit _ _) ?_
                    refine mx_top (y := nI 0) ((mx_bF (fun q => (s2_B hv hiP hjP).mp q hB)).symm) ?_
                    refine mx_iconstN 1 dL_holds_279 (by decide) ?_
                    refine mx_cmpN_ne 287 dL_holds_280 (by decide) (by omega) (by omega) (fun c280 => ?_) (fun c280 => ?_)
                    · skip
                      refine mx_iconstN 0 dL_holds_287 (by decide) ?_
                      refine mx_iload (i := 10) (hl := rfl) (hd := dL_holds_288) ?_
                      refine mx_ifR_lt 297 dL_holds_290 (by decide) (fun c290 => ?_) (fun c290 => ?_)
                      · skip
                        
                        refine mx_iconstN 0 dL_holds_297 (by decide) ?_
                        refine mx_cmpN_ne 410 dL_holds_298 (by decide) (by omega) (by omega) (fun c298 => ?_) (fun c298 => ?_)
                        · skip
                          exact absurd c298 (by decide)
                        · skip
                          refine mx_aload_n (i := 0) (hi := rfl) (hl := rfl) (hd := dL_holds_301) ?_
                          refine mx_iconstN 4 dL_holds_302 (by decide) ?_
                          refine mx_iload (i := 9) (hl := rfl) (hd := dL_holds_303) ?_
                          refine mx_iconstN 3 dL_holds_305 (by decide) ?_
                          refine mx_iconstN 0 dL_holds_306 (by decide) ?_
                          refine mx_callS (bc := 10 * (gP (zG z) - (j + 1)) + 82 * (gP (zG z) - (i + 1)) + 20 + 6) (bs := 60 * (gP (zG z) - (j + 1)) + 492 * (gP (zG z) - (i + 1)) + 120 + 36) (As := [.ref a, .int (nI 4), .int (nI j), .int (nI 3), .int (nI 0)]) (rest := []) (b1 := 2) (b2 := 12) dL_holds_307 (lc_person G8 I8 a z hW8 (nI j) (nI 3) (nI 0)) km_L_call rfl k_664 k_665 rfl rfl (Nat.le_of_ble_eq_true rfl) (by decide) (fun _ _ _ q => q.elim) (fun r23 G12 I12 h24 => ?_)
                          obtain ⟨e9, hQ12⟩ := h24
                          rw [tv_0 (flp_0 hP8 hjP (by decide) : fl_person z (nI j) (nI 3) = 0)] at e9
                          rw [show nI (an_person z (nI j).toInt.toNat (nI 3).toInt.toNat) = nI (an_person z j 3) from by rw [nI_tt (by omega), nI_tt (by decide)]] at e9
                          subst e9
                          have hA12 := hA8.tr hQ12
                          have hW12 := hQ12.1
                          refine mx_iload (i := 7) (hl := rfl) (hd := dL_holds_310) ?_
                          refine mx_ishrN dL_holds_312 (by omega) (by omega) ?_
                          refine mx_iconstN 1 dL_holds_313 (by decide) ?_
                          refine mx_iandN dL_holds_314 ?_
                          refine mx_top (mx_bit _ _) ?_
                          refine mx_top (y := nI 0) ((mx_bF (fun q => (s3_B hv hiP hjP).mp q hB)).symm) ?_
                          refine mx_iconstN 1 dL_holds_315 (by decide) ?_
                          refine mx_cmpN_ne 323 dL_holds_316 (by decide) (by omega) (by omega) (fun c316 => ?_) (fun c316 => ?_)
                          · skip
                            refine mx_iconstN 0 dL_holds_323 (by decide) ?_
                            refine mx_iload (i := 10) (hl := rfl) (hd := dL_holds_324) ?_
                            refine mx_ifR_lt 333 dL_holds_326 (by decide) (fun c326 => ?_) (fun c326 => ?_)
                            · skip
                              
                              refine mx_iconstN 0 dL_holds_333 (by decide) ?_
                              refine mx_cmpN_ne 410 dL_holds_334 (by decide) (by omega) (by omega) (fun c334 => ?_) (fun c334 => ?_)
                              · skip
                                exact absurd c334 (by decide)
                              · skip
                                refine mx_iload (i := 10) (hl := rfl) (hd := dL_holds_337) ?_
                                refine mx_ifR_lt 356 dL_holds_339 (by decide) (fun c339 => ?_) (fun c339 => ?_)
                                · skip
                                  
                                  refine mx_aload_n (i := 0) (hi := rfl) (hl := rfl) (hd := dL_holds_356) ?_
                                  refine mx_bipushN 17 dL_holds_357 (by decide) ?_
                                  refine mx_iload (i := 7) (hl := rfl) (hd := dL_holds_359) ?_
                                  refine mx_iload (i := 9) (hl := rfl) (hd := dL_holds_361) ?_
                                  refine mx_iconstN 1 dL_holds_363 (by decide) ?_
                                  refine mx_callS (bc := 10 * (gP (zG z) - (j + 1)) + 82 * (gP (zG z) - (i + 1)) + 20 + 4) (bs := 60 * (gP (zG z) - (j + 1)) + 492 * (gP (zG z) - (i + 1)) + 120 + 24) (As := [.ref a, .int (nI 17), .int (nI i), .int (nI j), .int (nI 1)]) (rest := []) (b1 := 2) (b2 := 12) dL_holds_364 (lc_paths G12 I12 a z hW12 (nI i) (nI j) (nI 1)) km_L_call rfl k_664 k_665 rfl rfl (Nat.le_of_ble_eq_true rfl) (by decide) (fun _ _ _ q => q.elim) (fun r25 G13 I13 h26 => ?_)
                                  obtain ⟨e9, hQ13⟩ := h26
                                  rw [tv_0 (flq_0 hP8 hiP hjP (by decide) : fl_paths z (nI i) (nI j) (nI 1) = 0)] at e9
                                  rw [show nI (an_paths z (nI i).toInt.toNat (nI j).toInt.toNat (nI 1).toInt.toNat) = nI (an_paths z i j 1) from by rw [nI_tt (by omega), nI_tt (by omega), nI_tt (by decide)]] at e9
                                  subst e9
                                  have hA13 := hA12.tr hQ13
                                  have hW13 := hQ13.1
                                  refine mx_aload_n (i := 0) (hi := rfl) (hl := rfl) (hd := dL_holds_367) ?_
                                  refine mx_bipushN 17 dL_holds_368 (by decide) ?_
                                  refine mx_iload (i := 7) (hl := rfl) (hd := dL_holds_370) ?_
                                  refine mx_iload (i := 9) (hl := rfl) (hd := dL_holds_372) ?_
                                  refine mx_iconstN 2 dL_holds_374 (by decide) ?_
                                  refine mx_callS (bc := 10 * (gP (zG z) - (j + 1)) + 82 * (gP (zG z) - (i + 1)) + 20 + 2) (bs := 60 * (gP (zG z) - (j + 1)) + 492 * (gP (zG z) - (i + 1)) + 120 + 12) (As := [.ref a, .int (nI 17), .int (nI i), .int (nI j), .int (nI 2)]) (rest := [.int (nI (an_paths z i j 1))]) (b1 := 2) (b2 := 12) dL_holds_375 (lc_paths G13 I13 a z hW13 (nI i) (nI j) (nI 2)) km_L_call rfl k_664 k_665 rfl rfl (Nat.le_of_ble_eq_true rfl) (by decide) (fun _ _ _ q => q.elim) (fun r27 G14 I14 h28 => ?_)
                                  obtain ⟨e9, hQ14⟩ := h28
                                  rw [tv_0 (flq_0 hP8 hiP hjP (by decide) : fl_paths z (nI i) (nI j) (nI 2) = 0)] at e9
                                  rw [show nI (an_paths z (nI i).toInt.toNat (nI j).toInt.toNat (nI 2).toInt.toNat) = nI (an_paths z i j 2) from by rw [nI_tt (by omega), nI_tt (by omega), nI_tt (by decide)]] at e9
                                  subst e9
                                  have hA14 := hA13.tr hQ14
                                  have hW14 := hQ14.1
                                  refine mx_cmpN_gt 410 dL_holds_378 (by decide) (hb1) (hb2) (fun c378 => ?_) (fun c378 => ?_)
                                  · skip
                                    exact absurd (show an_paths z i j 1 ≤ an_paths z i j 2 from pa_up z i j 1) (by omega)
                                  · skip
                                    refine mx_iload (i := 10) (hl := rfl) (hd := dL_holds_381) ?_
                                    refine mx_ifR_lt 406 dL_holds_383 (by decide) (fun c383 => ?_) (fun c383 => ?_)
                                    · skip
                                      
                                      refine mx_iconstN 1 dL_holds_406 (by decide) ?_
                                      refine mx_goto (tgt := 411) dL_holds_407 (by decide) ?_
                                      refine mx_istoreE (i := 6) (ls' := [some (.ref a), some (.int (nI x)), some (.int (nI (gP (zG z)))), some (.int (nI (gN (zG z)))), some (.int (nI ((xP (zG z) (vA (zX z)) i (j + 1)).1))), some (.int (oI (xP (zG z) (vA (zX z)) i (j + 1)).2)), some (.int (nI 1)), some (.int (nI i)), some (.int (nI (an_person z i 2))), some (.int (nI j)), some (.int (-9)), some (.int (-9)), some (.int (nI 0)), some (.int (nI i)), some (.int (nI 0)), none, none]) (hd := dL_holds_411) (hn := by decide) (hok := rfl) (hls := rfl) ?_
                                      refine mx_wk (bc' := 10 * (gP (zG z) - (j + 1)) + 82 * (gP (zG z) - (i + 1)) + 20) (bs' := 60 * (gP (zG z) - (j + 1)) + 492 * (gP (zG z) - (i + 1)) + 120) (by omega) (by omega) ?_
                                      refine mx_iincE (i := 9) (ls' := [some (.ref a), some (.int (nI x)), some (.int (nI (gP (zG z)))), some (.int (nI (gN (zG z)))), some (.int (nI ((xP (zG z) (vA (zX z)) i (j + 1)).1))), some (.int (oI (xP (zG z) (vA (zX z)) i (j + 1)).2)), some (.int (nI 1)), some (.int (nI i)), some (.int (nI (an_person z i 2))), some (.int (nI (j + 1))), some (.int (-9)), some (.int (-9)), some (.int (nI 0)), some (.int (nI i)), some (.int (nI 0)), none, none]) 1 dL_holds_413 rfl (by decide) (by decide) rfl rfl ?_
                                      refine mx_goto (tgt := 56) dL_holds_416 (by decide) ?_
                                      refine mx_leS (ls' := [some (.ref a), some (.int (nI x)), some (.int (nI (gP (zG z)))), some (.int (nI (gN (zG z)))), some (.int (nI ((xP (zG z) (vA (zX z)) i (j + 1)).1))), some (.int (oI (xP (zG z) (vA (zX z)) i (j + 1)).2)), some (.int (nI 1)), some (.int (nI i)), some (.int (nI (an_person z i 2))), some (.int (nI (j + 1))), none, none, none, none, none, none, none]) ⟨rfl, rfl, rfl, rfl, rfl, rfl, rfl, rfl, rfl, rfl, trivial⟩ ?_
                                      exact ih2 (j + 1) _ _ (by omega) (by omega) hiP hA14
                                    · skip
                                      exact absurd (by decide) c383
                                · skip
                                  exact absurd (by decide) c339
                            · skip
                              exact absurd (by decide) c326
                          · skip
                            exact absurd c316 (by decide)
                      · skip
                        exact absurd (by decide) c290
                    · skip
                      exact absurd c280 (by decide)
                  · skip
                    exact absurd (by decide) c138
              · skip
                exact absurd (by decide) c97
            | some y9 =>
              obtain ⟨c, n⟩ := y9
              obtain ⟨hc, hn, w, f, hw0, hwn, hf0, hfn, hall⟩ := pth_z hv hiP hjP hB
              have hc31 : ∀ z9, (some c : Option Nat) = some z9 → z9 < 2 ^ 31 := fun z9 h9 => by cases h9; omega
              refine mx_aload_n (i := 0) (hi := rfl) (hl := rfl) (hd := dL_holds_67) ?_
              refine mx_bipushN 14 dL_holds_68 (by decide) ?_
              refine mx_iload (i := 7) (hl := rfl) (hd := dL_holds_70) ?_
              refine mx_iload (i := 9) (hl := rfl) (hd := dL_holds_72) ?_
              refine mx_iconstN 0 dL_holds_74 (by decide) ?_
              refine mx_callS (bc := 10 * (gP (zG z) - (j + 1)) + 82 * (gP (zG z) - (i + 1)) + 20 + 9) (bs := 60 * (gP (zG z) - (j + 1)) + 492 * (gP (zG z) - (i + 1)) + 120 + 54) (As := [.ref a, .int (nI 14), .int (nI i), .int (nI j), .int (nI 0)]) (rest := []) (b1 := 1) (b2 := 6) dL_holds_75 (lc_cost G2 I2 a z hW2 (nI i) (nI j) (nI 0)) km_L_call rfl k_664 k_665 rfl rfl (Nat.le_of_ble_eq_true rfl) (by decide) (fun _ _ _ q => q.elim) (fun r29 G15 I15 h30 => ?_)
              obtain ⟨e9, hQ15⟩ := h30
              rw [tv_0 (fl2_0 hP8 hiP hjP : fl_two z (nI i) (nI j) = 0)] at e9
              rw [show oI (an_cost z (nI i).toInt.toNat (nI j).toInt.toNat) = nI c from by rw [nI_tt (by omega), nI_tt (by omega), co_B hv hiP hjP, hB]; rfl] at e9
              subst e9
              have hA15 := hA2.tr hQ15
              have hW15 := hQ15.1
              refine mx_istoreE (i := 10) (ls' := [some (.ref a), some (.int (nI x)), some (.int (nI (gP (zG z)))), some (.int (nI (gN (zG z)))), some (.int (nI ((xP (zG z) (vA (zX z)) i j).1))), some (.int (oI (xP (zG z) (vA (zX z)) i j).2)), some (.int (nI 1)), some (.int (nI i)), some (.int (nI (an_person z i 2))), some (.int (nI j)), some (.int (nI c)), none, none, none, none, none, none]) (hd := dL_holds_78) (hn := by decide) (hok := rfl) (hls := rfl) ?_
              refine mx_aload_n (i := 0) (hi := rfl) (hl := rfl) (hd := dL_holds_80) ?_
              refine mx_bipushN 15 dL_holds_81 (by decide) ?_
              refine mx_iload (i := 7) (hl := rfl) (hd := dL_holds_83) ?_
              refine mx_iload (i := 9) (hl := rfl) (hd := dL_holds_85) ?_
              refine mx_iconstN 0 dL_holds_87 (by decide) ?_
              refine mx_callS (bc := 10 * (gP (zG z) - (j + 1)) + 82 * (gP (zG z) - (i + 1)) + 20 + 8) (bs := 60 * (gP (zG z) - (j + 1)) + 492 * (gP (zG z) - (i + 1)) + 120 + 48) (As := [.ref a, .int (nI 15), .int (nI i), .int (nI j), .int (nI 0)]) (rest := []) (b1 := 1) (b2 := 6) dL_holds_88 (lc_length G15 I15 a z hW15 (nI i) (nI j) (nI 0)) km_L_call rfl k_664 k_665 rfl rfl (Nat.le_of_ble_eq_true rfl) (by decide) (fun _ _ _ q => q.elim) (fun r31 G16 I16 h32 => ?_)
              obtain ⟨e9, hQ16⟩ := h32
              rw [tv_0 (fl2_0 hP8 hiP hjP : fl_two z (nI i) (nI j) = 0)] at e9
              rw [show oI (an_length z (nI i).toInt.toNat (nI j).toInt.toNat) = nI n from by rw [nI_tt (by omega), nI_tt (by omega), le_B hv hiP hjP, hB]; rfl] at e9
              subst e9
              have hA16 := hA15.tr hQ16
              have hW16 := hQ16.1
              refine mx_istoreE (i := 11) (ls' := [some (.ref a), some (.int (nI x)), some (.int (nI (gP (zG z)))), some (.int (nI (gN (zG z)))), some (.int (nI ((xP (zG z) (vA (zX z)) i j).1))), some (.int (oI (xP (zG z) (vA (zX z)) i j).2)), some (.int (nI 1)), some (.int (nI i)), some (.int (nI (an_person z i 2))), some (.int (nI j)), some (.int (nI c)), some (.int (nI n)), none, none, none, none, none]) (hd := dL_holds_91) (hn := by decide) (hok := rfl) (hls := rfl) ?_
              refine mx_iload (i := 4) (hl := rfl) (hd := dL_holds_93) ?_
              refine mx_iload (i := 10) (hl := rfl) (hd := dL_holds_95) ?_
              refine mx_ifN_lt 104 dL_holds_97 (by decide) (by omega) (fun c97 => ?_) (fun c97 => ?_)
              · skip
                exact absurd c97 (Nat.not_lt_zero _)
              · skip
                
                refine mx_iconstN 1 dL_holds_100 (by decide) ?_
                refine mx_goto (tgt := 105) dL_holds_101 (by decide) ?_
                refine mx_iaddN dL_holds_105 ?_
                refine mx_top (y := nI ((xP (zG z) (vA (zX z)) i (j + 1)).1)) (congrArg nI (by rw [xP_1, if_neg (fun q => by rw [hB] at q; cases q)])) ?_
                refine mx_istoreE (i := 4) (ls' := [some (.ref a), some (.int (nI x)), some (.int (nI (gP (zG z)))), some (.int (nI (gN (zG z)))), some (.int (nI ((xP (zG z) (vA (zX z)) i (j + 1)).1))), some (.int (oI (xP (zG z) (vA (zX z)) i j).2)), some (.int (nI 1)), some (.int (nI i)), some (.int (nI (an_person z i 2))), some (.int (nI j)), some (.int (nI c)), some (.int (nI n)), none, none, none, none, none]) (hd := dL_holds_106) (hn := by decide) (hok := rfl) (hls := rfl) ?_
                refine mx_iload (i := 10) (hl := rfl) (hd := dL_holds_108) ?_
                refine mx_top (y := oI (some c)) (rfl) ?_
                refine mx_iload (i := 5) (hl := rfl) (hd := dL_holds_110) ?_
                refine mx_cmpR_le 120 dL_holds_112 (by decide) (fun c112 => ?_) (fun c112 => ?_)
                · skip
                  refine mx_iload (i := 5) (hl := rfl) (hd := dL_holds_120) ?_
                  refine mx_top (y := oI (xP (zG z) (vA (zX z)) i (j + 1)).2) (by rw [xP_2, hB]; exact gr_le hx2 hc31 c112) ?_
                  refine mx_istoreE (i := 5) (ls' := [some (.ref a), some (.int (nI x)), some (.int (nI (gP (zG z)))), some (.int (nI (gN (zG z)))), some (.int (nI ((xP (zG z) (vA (zX z)) i (j + 1)).1))), some (.int (oI (xP (zG z) (vA (zX z)) i (j + 1)).2)), some (.int (nI 1)), some (.int (nI i)), some (.int (nI (an_person z i 2))), some (.int (nI j)), some (.int (nI c)), some (.int (nI n)), none, none, none, none, none]) (hd := dL_holds_122) (hn := by decide) (hok := rfl) (hls := rfl) ?_
                  refine mx_iconstN 0 dL_holds_124 (by decide) ?_
                  refine mx_top (y := nI (f 0)) (congrArg nI hf0.symm) ?_
                  refine mx_istoreE (i := 12) (ls' := [some (.ref a), some (.int (nI x)), some (.int (nI (gP (zG z)))), some (.int (nI (gN (zG z)))), some (.int (nI ((xP (zG z) (vA (zX z)) i (j + 1)).1))), some (.int (oI (xP (zG z) (vA (zX z)) i (j + 1)).2)), some (.int (nI 1)), some (.int (nI i)), some (.int (nI (an_person z i 2))), some (.int (nI j)), some (.int (nI c)), some (.int (nI n)), some (.int (nI (f 0))), none, none, none, none]) (hd := dL_holds_125) (hn := by decide) (hok := rfl) (hls := rfl) ?_
                  refine mx_iload (i := 7) (hl := rfl) (hd := dL_holds_127) ?_
                  refine mx_top (y := nI (w 0)) (congrArg nI hw0.symm) ?_
                  refine mx_istoreE (i := 13) (ls' := [some (.ref a), some (.int (nI x)), some (.int (nI (gP (zG z)))), some (.int (nI (gN (zG z)))), some (.int (nI ((xP (zG z) (vA (zX z)) i (j + 1)).1))), some (.int (oI (xP (zG z) (vA (zX z)) i (j + 1)).2)), some (.int (nI 1)), some (.int (nI i)), some (.int (nI (an_person z i 2))), some (.int (nI j)), some (.int (nI c)), some (.int (nI n)), some (.int (nI (f 0))), some (.int (nI (w 0))), none, none, none]) (hd := dL_holds_129) (hn := by decide) (hok := rfl) (hls := rfl) ?_
                  refine mx_iconstN 0 dL_holds_131 (by decide) ?_
                  refine mx_istoreE (i := 14) (ls' := [some (.ref a), some (.int (nI x)), some (.int (nI (gP (zG z)))), some (.int (nI (gN (zG z)))), some (.int (nI ((xP (zG z) (vA (zX z)) i (j + 1)).1))), some (.int (oI (xP (zG z) (vA (zX z)) i (j + 1)).2)), some (.int (nI 1)), some (.int (nI i)), some (.int (nI (an_person z i 2))), some (.int (nI j)), some (.int (nI c)), some (.int (nI n)), some (.int (nI (f 0))), some (.int (nI (w 0))), some (.int (nI 0)), none, none]) (hd := dL_holds_132) (hn := by decide) (hok := rfl) (hls := rfl) ?_
                  exact L134 _ 0 n c w f _ _ _ _ (Nat.lt_succ_self _) (Nat.zero_le _) hn hc hB ⟨hwn, hfn, hall⟩ (by omega) rfl rfl hjP hA16
                · skip
                  refine mx_iload (i := 10) (hl := rfl) (hd := dL_holds_115) ?_
                  refine mx_top (y := oI (xP (zG z) (vA (zX z)) i (j + 1)).2) (by rw [xP_2, hB]; exact gr_gt hx2 hc31 c112) ?_
                  refine mx_goto (tgt := 122) dL_holds_117 (by decide) ?_
                  refine mx_istoreE (i := 5) (ls' := [some (.ref a), some (.int (nI x)), some (.int (nI (gP (zG z)))), some (.int (nI (gN (zG z)))), some (.int (nI ((xP (zG z) (vA (zX z)) i (j + 1)).1))), some (.int (oI (xP (zG z) (vA (zX z)) i (j + 1)).2)), some (.int (nI 1)), some (.int (nI i)), some (.int (nI (an_person z i 2))), some (.int (nI j)), some (.int (nI c)), some (.int (nI n)), none, none, none, none, none]) (hd := dL_holds_122) (hn := by decide) (hok := rfl) (hls := rfl) ?_
                  refine mx_iconstN 0 dL_holds_124 (by decide) ?_
                  refine mx_top (y := nI (f 0)) (congrArg nI hf0.symm) ?_
                  refine mx_istoreE (i := 12) (ls' := [some (.ref a), some (.int (nI x)), some (.int (nI (gP (zG z)))), some (.int (nI (gN (zG z)))), some (.int (nI ((xP (zG z) (vA (zX z)) i (j + 1)).1))), some (.int (oI (xP (zG z) (vA (zX z)) i (j + 1)).2)), some (.int (nI 1)), some (.int (nI i)), some (.int (nI (an_person z i 2))), some (.int (nI j)), some (.int (nI c)), some (.int (nI n)), some (.int (nI (f 0))), none, none, none, none]) (hd := dL_holds_125) (hn := by decide) (hok := rfl) (hls := rfl) ?_
                  refine mx_iload (i := 7) (hl := rfl) (hd := dL_holds_127) ?_
                  refine mx_top (y := nI (w 0)) (congrArg nI hw0.symm) ?_
                  refine mx_istoreE (i := 13) (ls' := [some (.ref a), some (.int (nI x)), some (.int (nI (gP (zG z)))), some (.int (nI (gN (zG z)))), some (.int (nI ((xP (zG z) (vA (zX z)) i (j + 1)).1))), some (.int (oI (xP (zG z) (vA (zX z)) i (j + 1)).2)), some (.int (nI 1)), some (.int (nI i)), some (.int (nI (an_person z i 2))), some (.int (nI j)), some (.int (nI c)), some (.int (nI n)), some (.int (nI (f 0))), some (.int (nI (w 0))), none, none, none]) (hd := dL_holds_129) (hn := by decide) (hok := rfl) (hls := rfl) ?_
                  refine mx_iconstN 0 dL_holds_131 (by decide) ?_
                  refine mx_istoreE (i := 14) (ls' := [some (.ref a), some (.int (nI x)), some (.int (nI (gP (zG z)))), some (.int (nI (gN (zG z)))), some (.int (nI ((xP (zG z) (vA (zX z)) i (j + 1)).1))), some (.int (oI (xP (zG z) (vA (zX z)) i (j + 1)).2)), some (.int (nI 1)), some (.int (nI i)), some (.int (nI (an_person z i 2))), some (.int (nI j)), some (.int (nI c)), some (.int (nI n)), some (.int (nI (f 0))), some (.int (nI (w 0))), some (.int (nI 0)), none, none]) (hd := dL_holds_132) (hn := by decide) (hok := rfl) (hls := rfl) ?_
                  exact L134 _ 0 n c w f _ _ _ _ (Nat.lt_succ_self _) (Nat.zero_le _) hn hc hB ⟨hwn, hfn, hall⟩ (by omega) rfl rfl hjP hA16
      refine mx_iload (i := 7) (hl := rfl) (hd := dL_holds_31) ?_
      refine mx_iload_n (i := 2) (hi := rfl) (hl := rfl) (hd := dL_holds_33) ?_
      refine mx_cmpN_ge 425 dL_holds_34 (by decide) (by omega) (by omega) (fun c34 => ?_) (fun c34 => ?_)
      · skip
        have eiP : i = gP (zG z) := by omega
        refine mx_wk (bc' := 0 + 20) (bs' := 0 + 120) (by omega) (by omega) ?_
        have hxs := xP_S hv.1 hv.2.1 hv.2.2.1
        have hx1 : (xP (zG z) (vA (zX z)) (gP (zG z)) 0).1 < 2 ^ 31 := by have := xP_le (v := zG z) (A := vA (zX z)) (gP (zG z)) 0 (Nat.zero_le _); have : gP (zG z) * gP (zG z) ≤ 8 * 8 := Nat.mul_le_mul hP8 hP8; omega
        refine mx_iload (i := 6) (hl := rfl) (hd := dL_holds_425) ?_
        refine mx_if1_eq 478 dL_holds_427 (by decide) ?_
        refine mx_aload_n (i := 0) (hi := rfl) (hl := rfl) (hd := dL_holds_430) ?_
        refine mx_iconstN 2 dL_holds_431 (by decide) ?_
        refine mx_iconstN 5 dL_holds_432 (by decide) ?_
        refine mx_iconstN 0 dL_holds_433 (by decide) ?_
        refine mx_iconstN 0 dL_holds_434 (by decide) ?_
        refine mx_callS (bc := 0 + 19) (bs := 0 + 114) (As := [.ref a, .int (nI 2), .int (nI 5), .int (nI 0), .int (nI 0)]) (rest := []) (b1 := 1) (b2 := 6) dL_holds_435 (lc_about G1 I1 a z hW1 (nI 5) (nI 0) (nI 0)) km_L_call rfl k_664 k_665 rfl rfl (Nat.le_of_ble_eq_true rfl) (by decide) (fun _ _ _ q => q.elim) (fun r33 G17 I17 h34 => ?_)
        obtain ⟨e9, hQ17⟩ := h34
        rw [tv_0 (by decide : fl_about (nI 5) = 0)] at e9
        rw [show an_about z (nI 5).toInt.toNat = nI ((xP (zG z) (vA (zX z)) (gP (zG z)) 0).1) from by show nI (svP _ _ 0 _).1 = _; rw [hxs]] at e9
        subst e9
        have hA17 := hA1.tr hQ17
        have hW17 := hQ17.1
        refine mx_iload (i := 4) (hl := rfl) (hd := dL_holds_438) ?_
        refine mx_top (y := nI ((xP (zG z) (vA (zX z)) (gP (zG z)) 0).1)) (by rw [eiP]) ?_
        refine mx_cmpN_ne 478 dL_holds_440 (by decide) (hx1) (hx1) (fun c440 => ?_) (fun c440 => ?_)
        · skip
          exact absurd rfl c440
        · skip
          refine mx_aload_n (i := 0) (hi := rfl) (hl := rfl) (hd := dL_holds_443) ?_
          refine mx_iconstN 2 dL_holds_444 (by decide) ?_
          refine mx_bipushN 7 dL_holds_445 (by decide) ?_
          refine mx_iconstN 0 dL_holds_447 (by decide) ?_
          refine mx_iconstN 0 dL_holds_448 (by decide) ?_
          refine mx_callS (bc := 0 + 18) (bs := 0 + 108) (As := [.ref a, .int (nI 2), .int (nI 7), .int (nI 0), .int (nI 0)]) (rest := []) (b1 := 1) (b2 := 6) dL_holds_449 (lc_about G17 I17 a z hW17 (nI 7) (nI 0) (nI 0)) km_L_call rfl k_664 k_665 rfl rfl (Nat.le_of_ble_eq_true rfl) (by decide) (fun _ _ _ q => q.elim) (fun r35 G18 I18 h36 => ?_)
          obtain ⟨e9, hQ18⟩ := h36
          rw [tv_0 (by decide : fl_about (nI 7) = 0)] at e9
          rw [show an_about z (nI 7).toInt.toNat = oI (xP (zG z) (vA (zX z)) (gP (zG z)) 0).2 from by show oI (svP _ _ 0 _).2 = _; rw [hxs]] at e9
          subst e9
          have hA18 := hA17.tr hQ18
          have hW18 := hQ18.1
          refine mx_iload (i := 5) (hl := rfl) (hd := dL_holds_452) ?_
          refine mx_top (y := oI (xP (zG z) (vA (zX z)) (gP (zG z)) 0).2) (by rw [eiP]) ?_
          refine mx_icmp_ne (tgt := 478) dL_holds_454 (by decide) (fun c454 => ?_) (fun c454 => ?_)
          · skip
            exact absurd rfl c454
          · skip
            refine mx_aload_n (i := 0) (hi := rfl) (hl := rfl) (hd := dL_holds_457) ?_
            refine mx_iconstN 2 dL_holds_458 (by decide) ?_
            refine mx_iconstN 4 dL_holds_459 (by decide) ?_
            refine mx_iconstN 0 dL_holds_460 (by decide) ?_
            refine mx_iconstN 0 dL_holds_461 (by decide) ?_
            refine mx_callS (bc := 0 + 17) (bs := 0 + 102) (As := [.ref a, .int (nI 2), .int (nI 4), .int (nI 0), .int (nI 0)]) (rest := []) (b1 := 1) (b2 := 6) dL_holds_462 (lc_about G18 I18 a z hW18 (nI 4) (nI 0) (nI 0)) km_L_call rfl k_664 k_665 rfl rfl (Nat.le_of_ble_eq_true rfl) (by decide) (fun _ _ _ q => q.elim) (fun r37 G19 I19 h38 => ?_)
            obtain ⟨e9, hQ19⟩ := h38
            rw [tv_0 (by decide : fl_about (nI 4) = 0)] at e9
            rw [show an_about z (nI 4).toInt.toNat = an_about z 4 from rfl] at e9
            subst e9
            have hA19 := hA18.tr hQ19
            have hW19 := hQ19.1
            by_cases hE : 1 &&& pAc (vA (zX z)) = 0
            · skip
              refine mx_top (y := nI 0) (if_neg (fun q => q hE)) ?_
              refine mx_if0_eq 474 dL_holds_465 (by decide) ?_
              refine mx_iconstN 1 dL_holds_474 (by decide) ?_
              refine mx_goto (tgt := 479) dL_holds_475 (by decide) ?_
              refine mx_istoreE (i := 6) (ls' := [some (.ref a), some (.int (nI x)), some (.int (nI (gP (zG z)))), some (.int (nI (gN (zG z)))), some (.int (nI ((xP (zG z) (vA (zX z)) i 0).1))), some (.int (oI (xP (zG z) (vA (zX z)) i 0).2)), some (.int (nI 1)), some (.int (nI i)), none, none, none, none, none, none, none, none, none]) (hd := dL_holds_479) (hn := by decide) (hok := rfl) (hls := rfl) ?_
              refine mx_iload_n (i := 3) (hi := rfl) (hl := rfl) (hd := dL_holds_481) ?_
              refine mx_ifN_le 676 dL_holds_482 (by decide) (by omega) (fun c482 => ?_) (fun c482 => ?_)
              · skip
                have hN0 : gN (zG z) = 0 := by omega
                refine mx_iload (i := 6) (hl := rfl) (hd := dL_holds_676) ?_
                refine mx_if1_eq 698 dL_holds_678 (by decide) ?_
                refine mx_aload_n (i := 0) (hi := rfl) (hl := rfl) (hd := dL_holds_681) ?_
                refine mx_iconstN 2 dL_holds_682 (by decide) ?_
                refine mx_iconstN 5 dL_holds_683 (by decide) ?_
                refine mx_iconstN 0 dL_holds_684 (by decide) ?_
                refine mx_iconstN 0 dL_holds_685 (by decide) ?_
                refine mx_callS (bc := 0 + 16) (bs := 0 + 96) (As := [.ref a, .int (nI 2), .int (nI 5), .int (nI 0), .int (nI 0)]) (rest := []) (b1 := 1) (b2 := 6) dL_holds_686 (lc_about G19 I19 a z hW19 (nI 5) (nI 0) (nI 0)) km_L_call rfl k_664 k_665 rfl rfl (Nat.le_of_ble_eq_true rfl) (by decide) (fun _ _ _ q => q.elim) (fun r39 G20 I20 h40 => ?_)
                obtain ⟨e9, hQ20⟩ := h40
                rw [tv_0 (by decide : fl_about (nI 5) = 0)] at e9
                rw [show an_about z (nI 5).toInt.toNat = nI ((xP (zG z) (vA (zX z)) (gP (zG z)) 0).1) from by show nI (svP _ _ 0 _).1 = _; rw [hxs]] at e9
                subst e9
                have hA20 := hA19.tr hQ20
                have hW20 := hQ20.1
                refine mx_iload (i := 4) (hl := rfl) (hd := dL_holds_689) ?_
                refine mx_top (y := nI ((xP (zG z) (vA (zX z)) (gP (zG z)) 0).1)) (by rw [eiP]) ?_
                refine mx_cmpN_ne 698 dL_holds_691 (by decide) (hx1) (hx1) (fun c691 => ?_) (fun c691 => ?_)
                · skip
                  exact absurd rfl c691
                · skip
                  refine mx_iconstN 1 dL_holds_694 (by decide) ?_
                  refine mx_goto (tgt := 699) dL_holds_695 (by decide) ?_
                  exact mx_iret dL_holds_699 rfl (by decide) (⟨rfl, by unfold hoZ; rw [if_pos hN0]; exact hA20⟩)
              · skip
                have hN1 : 0 < gN (zG z) := by omega
                have hsx : x % gN (zG z) < gN (zG z) := Nat.mod_lt _ hN1
                have hx4 : x % 4 < 4 := Nat.mod_lt _ (by decide)
                have hx5 : x / 4 % 4 < 4 := Nat.mod_lt _ (by decide)
                refine mx_iload (i := 6) (hl := rfl) (hd := dL_holds_485) ?_
                refine mx_if1_eq 676 dL_holds_487 (by decide) ?_
                refine mx_iload_n (i := 1) (hi := rfl) (hl := rfl) (hd := dL_holds_490) ?_
                refine mx_iload_n (i := 3) (hi := rfl) (hl := rfl) (hd := dL_holds_491) ?_
                refine mx_iremN dL_holds_492 (by omega) (by omega) ?_
                refine mx_istoreE (i := 7) (ls' := [some (.ref a), some (.int (nI x)), some (.int (nI (gP (zG z)))), some (.int (nI (gN (zG z)))), some (.int (nI ((xP (zG z) (vA (zX z)) i 0).1))), some (.int (oI (xP (zG z) (vA (zX z)) i 0).2)), some (.int (nI 1)), some (.int (nI (x % (gN (zG z))))), none, none, none, none, none, none, none, none, none]) (hd := dL_holds_493) (hn := by decide) (hok := rfl) (hls := rfl) ?_
                refine mx_aload_n (i := 0) (hi := rfl) (hl := rfl) (hd := dL_holds_495) ?_
                refine mx_iconstN 3 dL_holds_496 (by decide) ?_
                refine mx_iload (i := 7) (hl := rfl) (hd := dL_holds_497) ?_
                refine mx_iconstN 0 dL_holds_499 (by decide) ?_
                refine mx_iconstN 0 dL_holds_500 (by decide) ?_
                refine mx_callSp (As := [.ref a, .int (nI 3), .int (nI (x % (gN (zG z)))), .int (nI 0), .int (nI 0)]) (rest := []) dL_holds_501 (lc_stepT G19 I19 a z hW19 (x % (gN (zG z))) 0 hsx (by decide) (nI 0)) km_L_call rfl k_664 k_665 rfl rfl (Nat.le_of_ble_eq_true rfl) (by decide) ?_
                refine mx_top (y := nI (gF (zG z) (x % gN (zG z)))) (rfl) ?_
                refine mx_istoreE (i := 8) (ls' := [some (.ref a), some (.int (nI x)), some (.int (nI (gP (zG z)))), some (.int (nI (gN (zG z)))), some (.int (nI ((xP (zG z) (vA (zX z)) i 0).1))), some (.int (oI (xP (zG z) (vA (zX z)) i 0).2)), some (.int (nI 1)), some (.int (nI (x % (gN (zG z))))), some (.int (nI (gF (zG z) (x % gN (zG z))))), none, none, none, none, none, none, none, none]) (hd := dL_holds_504) (hn := by decide) (hok := rfl) (hls := rfl) ?_
                refine mx_aload_n (i := 0) (hi := rfl) (hl := rfl) (hd := dL_holds_506) ?_
                refine mx_iconstN 3 dL_holds_507 (by decide) ?_
                refine mx_iload (i := 7) (hl := rfl) (hd := dL_holds_508) ?_
                refine mx_iconstN 2 dL_holds_510 (by decide) ?_
                refine mx_iconstN 0 dL_holds_511 (by decide) ?_
                refine mx_callSp (As := [.ref a, .int (nI 3), .int (nI (x % (gN (zG z)))), .int (nI 2), .int (nI 0)]) (rest := []) dL_holds_512 (lc_stepT G19 I19 a z hW19 (x % (gN (zG z))) 2 hsx (by decide) (nI 0)) km_L_call rfl k_664 k_665 rfl rfl (Nat.le_of_ble_eq_true rfl) (by decide) ?_
                refine mx_top (y := nI (gT (zG z) (x % gN (zG z)))) (rfl) ?_
                refine mx_istoreE (i := 9) (ls' := [some (.ref a), some (.int (nI x)), some (.int (nI (gP (zG z)))), some (.int (nI (gN (zG z)))), some (.int (nI ((xP (zG z) (vA (zX z)) i 0).1))), some (.int (oI (xP (zG z) (vA (zX z)) i 0).2)), some (.int (nI 1)), some (.int (nI (x % (gN (zG z))))), some (.int (nI (gF (zG z) (x % gN (zG z))))), some (.int (nI (gT (zG z) (x % gN (zG z))))), none, none, none, none, none, none, none]) (hd := dL_holds_515) (hn := by decide) (hok := rfl) (hls := rfl) ?_
                rcases fl_turn_03 hsx hN24 with hT | hT
                · skip
                  have hg9 := hvb9 _ hsx
                  refine mx_aload_n (i := 0) (hi := rfl) (hl := rfl) (hd := dL_holds_517) ?_
                  refine mx_bipushN 10 dL_holds_518 (by decide) ?_
                  refine mx_iload (i := 7) (hl := rfl) (hd := dL_holds_520) ?_
                  refine mx_iconstN 0 dL_holds_522 (by decide) ?_
                  refine mx_iconstN 0 dL_holds_523 (by decide) ?_
                  refine mx_callS (bc := 0 + 16) (bs := 0 + 96) (As := [.ref a, .int (nI 10), .int (nI (x % (gN (zG z)))), .int (nI 0), .int (nI 0)]) (rest := []) (b1 := 1) (b2 := 6) dL_holds_524 (lc_turn G19 I19 a z hW19 (nI (x % (gN (zG z)))) (nI 0) (nI 0)) km_L_call rfl k_664 k_665 rfl rfl (Nat.le_of_ble_eq_true rfl) (by decide) (fun _ _ _ q => q.elim) (fun r41 G21 I21 h42 => ?_)
                  obtain ⟨e9, hQ21⟩ := h42
                  rw [tv_0 (hT : fl_turn z (nI (x % (gN (zG z)))) = 0)] at e9
                  rw [show nI (gT (zG z) (nI (x % (gN (zG z)))).toInt.toNat) = nI (gT (zG z) (x % gN (zG z))) from by rw [nI_tt (by omega)]] at e9
                  rw [tz_0 (hT : fl_turn z (nI (x % (gN (zG z)))) = 0)] at hQ21
                  subst e9
                  have hA21 := hA19.tr hQ21
                  have hW21 := hQ21.1
                  obtain ⟨z1, hz1⟩ : ∃ q, (nx_turn z (nI (x % (gN (zG z)))).toInt.toNat) = q := ⟨_, rfl⟩
                  rw [hz1] at hQ21 hA21 hW21
                  refine mx_istoreE (i := 10) (ls' := [some (.ref a), some (.int (nI x)), some (.int (nI (gP (zG z)))), some (.int (nI (gN (zG z)))), some (.int (nI ((xP (zG z) (vA (zX z)) i 0).1))), some (.int (oI (xP (zG z) (vA (zX z)) i 0).2)), some (.int (nI 1)), some (.int (nI (x % (gN (zG z))))), some (.int (nI (gF (zG z) (x % gN (zG z))))), some (.int (nI (gT (zG z) (x % gN (zG z))))), some (.int (nI (gT (zG z) (x % gN (zG z))))), none, none, none, none, none, none]) (hd := dL_holds_527) (hn := by decide) (hok := rfl) (hls := rfl) ?_
                  refine mx_iload (i := 10) (hl := rfl) (hd := dL_holds_529) ?_
                  refine mx_ldc (v := (-9999003)) k_675 dL_holds_531 ?_
                  refine mx_icmp_eq (tgt := 596) dL_holds_533 (by decide) (fun c533 => ?_) (fun c533 => ?_)
                  · skip
                    exact absurd c533 (nI_n9 (by omega))
                  · skip
                    
                    refine mx_iload (i := 10) (hl := rfl) (hd := dL_holds_536) ?_
                    refine mx_iload (i := 9) (hl := rfl) (hd := dL_holds_538) ?_
                    refine mx_cmpN_ne 600 dL_holds_540 (by decide) (by omega) (by omega) (fun c540 => ?_) (fun c540 => ?_)
                    · skip
                      exact absurd rfl c540
                    · skip
                      have hN1z : gN (zG z1) = gN (zG z) := (tn_F (by omega) hz1).2.2
                      have hsx1 : x % gN (zG z) < gN (zG z1) := by rw [hN1z]; exact hsx
                      refine mx_aload_n (i := 0) (hi := rfl) (hl := rfl) (hd := dL_holds_543) ?_
                      refine mx_iconstN 3 dL_holds_544 (by decide) ?_
                      refine mx_iload (i := 7) (hl := rfl) (hd := dL_holds_545) ?_
                      refine mx_iconstN 2 dL_holds_547 (by decide) ?_
                      refine mx_iconstN 0 dL_holds_548 (by decide) ?_
                      refine mx_callSp (As := [.ref a, .int (nI 3), .int (nI (x % (gN (zG z)))), .int (nI 2), .int (nI 0)]) (rest := []) dL_holds_549 (lc_stepT G21 I21 a z1 hW21 (x % (gN (zG z))) 2 hsx1 (by decide) (nI 0)) km_L_call rfl k_664 k_665 rfl rfl (Nat.le_of_ble_eq_true rfl) (by decide) ?_
                      refine mx_top (y := nI (gF (zG z) (x % gN (zG z)))) (by rw [← (tn_F (by omega) hz1).2.1]; rfl) ?_
                      refine mx_iload (i := 8) (hl := rfl) (hd := dL_holds_552) ?_
                      refine mx_cmpN_ne 600 dL_holds_554 (by decide) (by omega) (by omega) (fun c554 => ?_) (fun c554 => ?_)
                      · skip
                        exact absurd rfl c554
                      · skip
                        refine mx_aload_n (i := 0) (hi := rfl) (hl := rfl) (hd := dL_holds_557) ?_
                        refine mx_bipushN 10 dL_holds_558 (by decide) ?_
                        refine mx_iload (i := 7) (hl := rfl) (hd := dL_holds_560) ?_
                        refine mx_iconstN 0 dL_holds_562 (by decide) ?_
                        refine mx_iconstN 0 dL_holds_563 (by decide) ?_
                        refine mx_callS (bc := 0 + 15) (bs := 0 + 90) (As := [.ref a, .int (nI 10), .int (nI (x % (gN (zG z)))), .int (nI 0), .int (nI 0)]) (rest := []) (b1 := 1) (b2 := 6) dL_holds_564 (lc_turn G21 I21 a z1 hW21 (nI (x % (gN (zG z)))) (nI 0) (nI 0)) km_L_call rfl k_664 k_665 rfl rfl (Nat.le_of_ble_eq_true rfl) (by decide) (fun _ _ _ q => q.elim) (fun r43 G22 I22 h44 => ?_)
                        obtain ⟨e9, hQ22⟩ := h44
                        rw [tv_0 (fl_turn_2 hJ.2.1 hsx hN24 hT hz1 : fl_turn z1 (nI (x % (gN (zG z)))) = 0)] at e9
                        rw [show nI (gT (zG z1) (nI (x % (gN (zG z)))).toInt.toNat) = nI (gF (zG z) (x % gN (zG z))) from by rw [nI_tt (by omega), (tn_F (by omega) hz1).2.1]] at e9
                        rw [tz_0 (fl_turn_2 hJ.2.1 hsx hN24 hT hz1 : fl_turn z1 (nI (x % (gN (zG z)))) = 0)] at hQ22
                        subst e9
                        have hA22 := hA21.tr hQ22
                        have hW22 := hQ22.1
                        obtain ⟨z2, hz2⟩ : ∃ q, (nx_turn z1 (nI (x % (gN (zG z)))).toInt.toNat) = q := ⟨_, rfl⟩
                        rw [hz2] at hQ22 hA22 hW22
                        refine mx_iload (i := 8) (hl := rfl) (hd := dL_holds_567) ?_
                        refine mx_cmpN_ne 600 dL_holds_569 (by decide) (by omega) (by omega) (fun c569 => ?_) (fun c569 => ?_)
                        · skip
                          exact absurd rfl c569
                        · skip
                          have hu1 : fl_undo z2 = 0 := by rw [← hz2]; exact un_1 _ _
                          have hc2 : zC z2 - 1 < 2 ^ 31 := by have := hW22.2.2.2.1.1; omega
                          refine mx_aload_n (i := 0) (hi := rfl) (hl := rfl) (hd := dL_holds_572) ?_
                          refine mx_bipushN 13 dL_holds_573 (by decide) ?_
                          refine mx_iconstN 0 dL_holds_575 (by decide) ?_
                          refine mx_iconstN 0 dL_holds_576 (by decide) ?_
                          refine mx_iconstN 0 dL_holds_577 (by decide) ?_
                          refine mx_callS (bc := 0 + 14) (bs := 0 + 84) (As := [.ref a, .int (nI 13), .int (nI 0), .int (nI 0), .int (nI 0)]) (rest := []) (b1 := 1) (b2 := 6) dL_holds_578 (lc_undo G22 I22 a z2 hW22 (nI 0) (nI 0) (nI 0)) km_L_call rfl k_664 k_665 rfl rfl (Nat.le_of_ble_eq_true rfl) (by decide) (fun _ _ _ q => q.elim) (fun r45 G23 I23 h46 => ?_)
                          obtain ⟨e9, hQ23⟩ := h46
                          rw [tv_0 (hu1 : fl_undo z2 = 0)] at e9
                          rw [tz_0 (hu1 : fl_undo z2 = 0)] at hQ23
                          subst e9
                          have hA23 := hA22.tr hQ23
                          have hW23 := hQ23.1
                          obtain ⟨z3, hz3⟩ : ∃ q, (nx_undo z2) = q := ⟨_, rfl⟩
                          rw [hz3] at hQ23 hA23 hW23
                          refine mx_ifN_lt 600 dL_holds_581 (by decide) (hc2) (fun c581 => ?_) (fun c581 => ?_)
                          · skip
                            exact absurd c581 (Nat.not_lt_zero _)
                          · skip
                            have hu2 : fl_undo z3 = 0 := by rw [← hz3, ← hz2, ← hz1]; exact un_2 _ _ _
                            have hc3 : zC z3 - 1 < 2 ^ 31 := by have := hW23.2.2.2.1.1; omega
                            refine mx_aload_n (i := 0) (hi := rfl) (hl := rfl) (hd := dL_holds_584) ?_
                            refine mx_bipushN 13 dL_holds_585 (by decide) ?_
                            refine mx_iconstN 0 dL_holds_587 (by decide) ?_
                            refine mx_iconstN 0 dL_holds_588 (by decide) ?_
                            refine mx_iconstN 0 dL_holds_589 (by decide) ?_
                            refine mx_callS (bc := 0 + 13) (bs := 0 + 78) (As := [.ref a, .int (nI 13), .int (nI 0), .int (nI 0), .int (nI 0)]) (rest := []) (b1 := 1) (b2 := 6) dL_holds_590 (lc_undo G23 I23 a z3 hW23 (nI 0) (nI 0) (nI 0)) km_L_call rfl k_664 k_665 rfl rfl (Nat.le_of_ble_eq_true rfl) (by decide) (fun _ _ _ q => q.elim) (fun r47 G24 I24 h48 => ?_)
                            obtain ⟨e9, hQ24⟩ := h48
                            rw [tv_0 (hu2 : fl_undo z3 = 0)] at e9
                            rw [tz_0 (hu2 : fl_undo z3 = 0)] at hQ24
                            subst e9
                            have hA24 := hA23.tr hQ24
                            have hW24 := hQ24.1
                            obtain ⟨z4, hz4⟩ : ∃ q, (nx_undo z3) = q := ⟨_, rfl⟩
                            rw [hz4] at hQ24 hA24 hW24
                            refine mx_ifN_lt 600 dL_holds_593 (by decide) (hc3) (fun c593 => ?_) (fun c593 => ?_)
                            · skip
                              exact absurd c593 (Nat.not_lt_zero _)
                            · skip
                              refine mx_iconstN 1 dL_holds_596 (by decide) ?_
                              refine mx_goto (tgt := 601) dL_holds_597 (by decide) ?_
                              refine mx_istoreE (i := 6) (ls' := [some (.ref a), some (.int (nI x)), some (.int (nI (gP (zG z)))), some (.int (nI (gN (zG z)))), some (.int (nI ((xP (zG z) (vA (zX z)) i 0).1))), some (.int (oI (xP (zG z) (vA (zX z)) i 0).2)), some (.int (nI 1)), some (.int (nI (x % (gN (zG z))))), some (.int (nI (gF (zG z) (x % gN (zG z))))), some (.int (nI (gT (zG z) (x % gN (zG z))))), some (.int (nI (gT (zG z) (x % gN (zG z))))), none, none, none, none, none, none]) (hd := dL_holds_601) (hn := by decide) (hok := rfl) (hls := rfl) ?_
                              have hX4 : zX z4 = zX z := by rw [← hz4, ← hz3, ← hz2, ← hz1]; exact un_X _ _ _
                              have hG4 : zG z4 = zG z := congrArg Prod.fst hX4
                              have hch : gCh (gK (zG z)) (x % 4) (x / 4 % 4) (gN (zG z)) < 2 ^ 31 := Nat.lt_of_le_of_lt (gCh_le9 _ _ _ _) (by omega)
                              refine mx_aload_n (i := 0) (hi := rfl) (hl := rfl) (hd := dL_holds_603) ?_
                              refine mx_bipushN 11 dL_holds_604 (by decide) ?_
                              refine mx_iload_n (i := 1) (hi := rfl) (hl := rfl) (hd := dL_holds_606) ?_
                              refine mx_iconstN 4 dL_holds_607 (by decide) ?_
                              refine mx_iremN dL_holds_608 (by omega) (by decide) ?_
                              refine mx_iload_n (i := 1) (hi := rfl) (hl := rfl) (hd := dL_holds_609) ?_
                              refine mx_iconstN 4 dL_holds_610 (by decide) ?_
                              refine mx_idivN dL_holds_611 (by omega) (by decide) ?_
                              refine mx_iconstN 4 dL_holds_612 (by decide) ?_
                              refine mx_iremN dL_holds_613 (by omega) (by decide) ?_
                              refine mx_iconstN 0 dL_holds_614 (by decide) ?_
                              refine mx_callS (bc := 0 + 12) (bs := 0 + 72) (As := [.ref a, .int (nI 11), .int (nI (x % 4)), .int (nI ((x / 4) % 4)), .int (nI 0)]) (rest := []) (b1 := 1) (b2 := 6) dL_holds_615 (lc_exchange G24 I24 a z4 hW24 (nI (x % 4)) (nI ((x / 4) % 4)) (nI 0)) km_L_call rfl k_664 k_665 rfl rfl (Nat.le_of_ble_eq_true rfl) (by decide) (fun _ _ _ q => q.elim) (fun r49 G25 I25 h50 => ?_)
                              obtain ⟨e9, hQ25⟩ := h50
                              rw [tv_0 (fl_sw0 _ _ hx4 hx5 : fl_exchange (nI (x % 4)) (nI ((x / 4) % 4)) = 0)] at e9
                              rw [show nI (gCh (gK (zG z4)) (nI (x % 4)).toInt.toNat (nI ((x / 4) % 4)).toInt.toNat (gN (zG z4))) = nI (gCh (gK (zG z)) (x % 4) (x / 4 % 4) (gN (zG z))) from by rw [nI_tt (by omega), nI_tt (by omega), hG4]] at e9
                              rw [tz_0 (fl_sw0 _ _ hx4 hx5 : fl_exchange (nI (x % 4)) (nI ((x / 4) % 4)) = 0)] at hQ25
                              subst e9
                              have hA25 := hA24.tr hQ25
                              have hW25 := hQ25.1
                              obtain ⟨z5, hz5⟩ : ∃ q, (nx_exchange z4 (nI (x % 4)).toInt.toNat (nI ((x / 4) % 4)).toInt.toNat) = q := ⟨_, rfl⟩
                              rw [hz5] at hQ25 hA25 hW25
                              refine mx_istoreE (i := 11) (ls' := [some (.ref a), some (.int (nI x)), some (.int (nI (gP (zG z)))), some (.int (nI (gN (zG z)))), some (.int (nI ((xP (zG z) (vA (zX z)) i 0).1))), some (.int (oI (xP (zG z) (vA (zX z)) i 0).2)), some (.int (nI 1)), some (.int (nI (x % (gN (zG z))))), some (.int (nI (gF (zG z) (x % gN (zG z))))), some (.int (nI (gT (zG z) (x % gN (zG z))))), some (.int (nI (gT (zG z) (x % gN (zG z))))), some (.int (nI (gCh (gK (zG z)) (x % 4) (x / 4 % 4) (gN (zG z))))), none, none, none, none, none]) (hd := dL_holds_618) (hn := by decide) (hok := rfl) (hls := rfl) ?_
                              refine mx_iload (i := 6) (hl := rfl) (hd := dL_holds_620) ?_
                              refine mx_if1_eq 673 dL_holds_622 (by decide) ?_
                              refine mx_aload_n (i := 0) (hi := rfl) (hl := rfl) (hd := dL_holds_625) ?_
                              refine mx_bipushN 11 dL_holds_626 (by decide) ?_
                              refine mx_iload_n (i := 1) (hi := rfl) (hl := rfl) (hd := dL_holds_628) ?_
                              refine mx_iconstN 4 dL_holds_629 (by decide) ?_
                              refine mx_idivN dL_holds_630 (by omega) (by decide) ?_
                              refine mx_iconstN 4 dL_holds_631 (by decide) ?_
                              refine mx_iremN dL_holds_632 (by omega) (by decide) ?_
                              refine mx_iload_n (i := 1) (hi := rfl) (hl := rfl) (hd := dL_holds_633) ?_
                              refine mx_iconstN 4 dL_holds_634 (by decide) ?_
                              refine mx_iremN dL_holds_635 (by omega) (by decide) ?_
                              refine mx_iconstN 0 dL_holds_636 (by decide) ?_
                              refine mx_callS (bc := 0 + 11) (bs := 0 + 66) (As := [.ref a, .int (nI 11), .int (nI ((x / 4) % 4)), .int (nI (x % 4)), .int (nI 0)]) (rest := []) (b1 := 1) (b2 := 6) dL_holds_637 (lc_exchange G25 I25 a z5 hW25 (nI ((x / 4) % 4)) (nI (x % 4)) (nI 0)) km_L_call rfl k_664 k_665 rfl rfl (Nat.le_of_ble_eq_true rfl) (by decide) (fun _ _ _ q => q.elim) (fun r51 G26 I26 h52 => ?_)
                              obtain ⟨e9, hQ26⟩ := h52
                              rw [tv_0 (fl_sw0 _ _ hx5 hx4 : fl_exchange (nI ((x / 4) % 4)) (nI (x % 4)) = 0)] at e9
                              rw [show nI (gCh (gK (zG z5)) (nI ((x / 4) % 4)).toInt.toNat (nI (x % 4)).toInt.toNat (gN (zG z5))) = nI (gCh (gK (zG z)) (x % 4) (x / 4 % 4) (gN (zG z))) from by rw [nI_tt (by omega), nI_tt (by omega), ← hz5, nI_tt (by omega), nI_tt (by omega), ← ch_2 (gK (zG z)) (x % 4) (x / 4 % 4), ← hG4]; rfl] at e9
                              rw [tz_0 (fl_sw0 _ _ hx5 hx4 : fl_exchange (nI ((x / 4) % 4)) (nI (x % 4)) = 0)] at hQ26
                              subst e9
                              have hA26 := hA25.tr hQ26
                              have hW26 := hQ26.1
                              obtain ⟨z6, hz6⟩ : ∃ q, (nx_exchange z5 (nI ((x / 4) % 4)).toInt.toNat (nI (x % 4)).toInt.toNat) = q := ⟨_, rfl⟩
                              rw [hz6] at hQ26 hA26 hW26
                              refine mx_iload (i := 11) (hl := rfl) (hd := dL_holds_640) ?_
                              refine mx_cmpN_ne 673 dL_holds_642 (by decide) (hch) (hch) (fun c642 => ?_) (fun c642 => ?_)
                              · skip
                                exact absurd rfl c642
                              · skip
                                have hu3 : fl_undo z6 = 0 := by rw [← hz6]; exact un_1 _ _
                                have hc6 : zC z6 - 1 < 2 ^ 31 := by have := hW26.2.2.2.1.1; omega
                                refine mx_aload_n (i := 0) (hi := rfl) (hl := rfl) (hd := dL_holds_645) ?_
                                refine mx_bipushN 13 dL_holds_646 (by decide) ?_
                                refine mx_iconstN 0 dL_holds_648 (by decide) ?_
                                refine mx_iconstN 0 dL_holds_649 (by decide) ?_
                                refine mx_iconstN 0 dL_holds_650 (by decide) ?_
                                refine mx_callS (bc := 0 + 10) (bs := 0 + 60) (As := [.ref a, .int (nI 13), .int (nI 0), .int (nI 0), .int (nI 0)]) (rest := []) (b1 := 1) (b2 := 6) dL_holds_651 (lc_undo G26 I26 a z6 hW26 (nI 0) (nI 0) (nI 0)) km_L_call rfl k_664 k_665 rfl rfl (Nat.le_of_ble_eq_true rfl) (by decide) (fun _ _ _ q => q.elim) (fun r53 G27 I27 h54 => ?_)
                                obtain ⟨e9, hQ27⟩ := h54
                                rw [tv_0 (hu3 : fl_undo z6 = 0)] at e9
                                rw [tz_0 (hu3 : fl_undo z6 = 0)] at hQ27
                                subst e9
                                have hA27 := hA26.tr hQ27
                                have hW27 := hQ27.1
                                obtain ⟨z7, hz7⟩ : ∃ q, (nx_undo z6) = q := ⟨_, rfl⟩
                                rw [hz7] at hQ27 hA27 hW27
                                refine mx_ifN_lt 673 dL_holds_654 (by decide) (hc6) (fun c654 => ?_) (fun c654 => ?_)
                                · skip
                                  exact absurd c654 (Nat.not_lt_zero _)
                                · skip
                                  have hu4 : fl_undo z7 = 0 := by rw [← hz7, ← hz6, ← hz5]; exact un_2 _ _ _
                                  have hc7 : zC z7 - 1 < 2 ^ 31 := by have := hW27.2.2.2.1.1; omega
                                  refine mx_aload_n (i := 0) (hi := rfl) (hl := rfl) (hd := dL_holds_657) ?_
                                  refine mx_bipushN 13 dL_holds_658 (by decide) ?_
                                  refine mx_iconstN 0 dL_holds_660 (by decide) ?_
                                  refine mx_iconstN 0 dL_holds_661 (by decide) ?_
                                  refine mx_iconstN 0 dL_holds_662 (by decide) ?_
                                  refine mx_callS (bc := 0 + 9) (bs := 0 + 54) (As := [.ref a, .int (nI 13), .int (nI 0), .int (nI 0), .int (nI 0)]) (rest := []) (b1 := 1) (b2 := 6) dL_holds_663 (lc_undo G27 I27 a z7 hW27 (nI 0) (nI 0) (nI 0)) km_L_call rfl k_664 k_665 rfl rfl (Nat.le_of_ble_eq_true rfl) (by decide) (fun _ _ _ q => q.elim) (fun r55 G28 I28 h56 => ?_)
                                  obtain ⟨e9, hQ28⟩ := h56
                                  rw [tv_0 (hu4 : fl_undo z7 = 0)] at e9
                                  rw [tz_0 (hu4 : fl_undo z7 = 0)] at hQ28
                                  subst e9
                                  have hA28 := hA27.tr hQ28
                                  have hW28 := hQ28.1
                                  obtain ⟨z8, hz8⟩ : ∃ q, (nx_undo z7) = q := ⟨_, rfl⟩
                                  rw [hz8] at hQ28 hA28 hW28
                                  refine mx_ifN_lt 673 dL_holds_666 (by decide) (hc7) (fun c666 => ?_) (fun c666 => ?_)
                                  · skip
                                    exact absurd c666 (Nat.not_lt_zero _)
                                  · skip
                                    refine mx_iconstN 1 dL_holds_669 (by decide) ?_
                                    refine mx_goto (tgt := 674) dL_holds_670 (by decide) ?_
                                    refine mx_istoreE (i := 6) (ls' := [some (.ref a), some (.int (nI x)), some (.int (nI (gP (zG z)))), some (.int (nI (gN (zG z)))), some (.int (nI ((xP (zG z) (vA (zX z)) i 0).1))), some (.int (oI (xP (zG z) (vA (zX z)) i 0).2)), some (.int (nI 1)), some (.int (nI (x % (gN (zG z))))), some (.int (nI (gF (zG z) (x % gN (zG z))))), some (.int (nI (gT (zG z) (x % gN (zG z))))), some (.int (nI (gT (zG z) (x % gN (zG z))))), some (.int (nI (gCh (gK (zG z)) (x % 4) (x / 4 % 4) (gN (zG z))))), none, none, none, none, none]) (hd := dL_holds_674) (hn := by decide) (hok := rfl) (hls := rfl) ?_
                                    have hX8 : zX z8 = zX z := by rw [← hz8, ← hz7, ← hz6, ← hz5]; exact (un_X _ _ _).trans hX4
                                    have hG8 : zG z8 = zG z := congrArg Prod.fst hX8
                                    refine mx_iload (i := 6) (hl := rfl) (hd := dL_holds_676) ?_
                                    refine mx_if1_eq 698 dL_holds_678 (by decide) ?_
                                    refine mx_aload_n (i := 0) (hi := rfl) (hl := rfl) (hd := dL_holds_681) ?_
                                    refine mx_iconstN 2 dL_holds_682 (by decide) ?_
                                    refine mx_iconstN 5 dL_holds_683 (by decide) ?_
                                    refine mx_iconstN 0 dL_holds_684 (by decide) ?_
                                    refine mx_iconstN 0 dL_holds_685 (by decide) ?_
                                    refine mx_callS (bc := 0 + 8) (bs := 0 + 48) (As := [.ref a, .int (nI 2), .int (nI 5), .int (nI 0), .int (nI 0)]) (rest := []) (b1 := 1) (b2 := 6) dL_holds_686 (lc_about G28 I28 a z8 hW28 (nI 5) (nI 0) (nI 0)) km_L_call rfl k_664 k_665 rfl rfl (Nat.le_of_ble_eq_true rfl) (by decide) (fun _ _ _ q => q.elim) (fun r57 G29 I29 h58 => ?_)
                                    obtain ⟨e9, hQ29⟩ := h58
                                    rw [tv_0 (by decide : fl_about (nI 5) = 0)] at e9
                                    rw [show an_about z8 (nI 5).toInt.toNat = nI ((xP (zG z) (vA (zX z)) (gP (zG z)) 0).1) from by show nI (svP _ _ 0 _).1 = _; rw [hG8, hX8, hxs]] at e9
                                    subst e9
                                    have hA29 := hA28.tr hQ29
                                    have hW29 := hQ29.1
                                    refine mx_iload (i := 4) (hl := rfl) (hd := dL_holds_689) ?_
                                    refine mx_top (y := nI ((xP (zG z) (vA (zX z)) (gP (zG z)) 0).1)) (by rw [eiP]) ?_
                                    refine mx_cmpN_ne 698 dL_holds_691 (by decide) (hx1) (hx1) (fun c691 => ?_) (fun c691 => ?_)
                                    · skip
                                      exact absurd rfl c691
                                    · skip
                                      refine mx_iconstN 1 dL_holds_694 (by decide) ?_
                                      refine mx_goto (tgt := 699) dL_holds_695 (by decide) ?_
                                      exact mx_iret dL_holds_699 rfl (by decide) (⟨rfl, by unfold hoZ; rw [if_neg (by omega), if_pos hT, hz1, hz2, hz3, hz4, hz5, hz6, hz7, hz8]; exact hA29⟩)
                · skip
                  refine mx_aload_n (i := 0) (hi := rfl) (hl := rfl) (hd := dL_holds_517) ?_
                  refine mx_bipushN 10 dL_holds_518 (by decide) ?_
                  refine mx_iload (i := 7) (hl := rfl) (hd := dL_holds_520) ?_
                  refine mx_iconstN 0 dL_holds_522 (by decide) ?_
                  refine mx_iconstN 0 dL_holds_523 (by decide) ?_
                  refine mx_callS (bc := 0 + 16) (bs := 0 + 96) (As := [.ref a, .int (nI 10), .int (nI (x % (gN (zG z)))), .int (nI 0), .int (nI 0)]) (rest := []) (b1 := 1) (b2 := 6) dL_holds_524 (lc_turn G19 I19 a z hW19 (nI (x % (gN (zG z)))) (nI 0) (nI 0)) km_L_call rfl k_664 k_665 rfl rfl (Nat.le_of_ble_eq_true rfl) (by decide) (fun _ _ _ q => q.elim) (fun r59 G30 I30 h60 => ?_)
                  obtain ⟨e9, hQ30⟩ := h60
                  rw [tv_3 (hT : fl_turn z (nI (x % (gN (zG z)))) = 3)] at e9
                  rw [tz_n (by rw [(hT : fl_turn z (nI (x % (gN (zG z)))) = 3)]; decide)] at hQ30
                  subst e9
                  have hA30 := hA19.tr hQ30
                  have hW30 := hQ30.1
                  refine mx_istoreE (i := 10) (ls' := [some (.ref a), some (.int (nI x)), some (.int (nI (gP (zG z)))), some (.int (nI (gN (zG z)))), some (.int (nI ((xP (zG z) (vA (zX z)) i 0).1))), some (.int (oI (xP (zG z) (vA (zX z)) i 0).2)), some (.int (nI 1)), some (.int (nI (x % (gN (zG z))))), some (.int (nI (gF (zG z) (x % gN (zG z))))), some (.int (nI (gT (zG z) (x % gN (zG z))))), some (.int (-9999003)), none, none, none, none, none, none]) (hd := dL_holds_527) (hn := by decide) (hok := rfl) (hls := rfl) ?_
                  refine mx_iload (i := 10) (hl := rfl) (hd := dL_holds_529) ?_
                  refine mx_ldc (v := (-9999003)) k_675 dL_holds_531 ?_
                  refine mx_icmp_eq (tgt := 596) dL_holds_533 (by decide) (fun c533 => ?_) (fun c533 => ?_)
                  · skip
                    
                    refine mx_iconstN 1 dL_holds_596 (by decide) ?_
                    refine mx_goto (tgt := 601) dL_holds_597 (by decide) ?_
                    refine mx_istoreE (i := 6) (ls' := [some (.ref a), some (.int (nI x)), some (.int (nI (gP (zG z)))), some (.int (nI (gN (zG z)))), some (.int (nI ((xP (zG z) (vA (zX z)) i 0).1))), some (.int (oI (xP (zG z) (vA (zX z)) i 0).2)), some (.int (nI 1)), some (.int (nI (x % (gN (zG z))))), some (.int (nI (gF (zG z) (x % gN (zG z))))), some (.int (nI (gT (zG z) (x % gN (zG z))))), some (.int (-9999003)), none, none, none, none, none, none]) (hd := dL_holds_601) (hn := by decide) (hok := rfl) (hls := rfl) ?_
                    have hX4 : zX z = zX z := rfl
                    have hG4 : zG z = zG z := rfl
                    have hch : gCh (gK (zG z)) (x % 4) (x / 4 % 4) (gN (zG z)) < 2 ^ 31 := Nat.lt_of_le_of_lt (gCh_le9 _ _ _ _) (by omega)
                    refine mx_aload_n (i := 0) (hi := rfl) (hl := rfl) (hd := dL_holds_603) ?_
                    refine mx_bipushN 11 dL_holds_604 (by decide) ?_
                    refine mx_iload_n (i := 1) (hi := rfl) (hl := rfl) (hd := dL_holds_606) ?_
                    refine mx_iconstN 4 dL_holds_607 (by decide) ?_
                    refine mx_iremN dL_holds_608 (by omega) (by decide) ?_
                    refine mx_iload_n (i := 1) (hi := rfl) (hl := rfl) (hd := dL_holds_609) ?_
                    refine mx_iconstN 4 dL_holds_610 (by decide) ?_
                    refine mx_idivN dL_holds_611 (by omega) (by decide) ?_
                    refine mx_iconstN 4 dL_holds_612 (by decide) ?_
                    refine mx_iremN dL_holds_613 (by omega) (by decide) ?_
                    refine mx_iconstN 0 dL_holds_614 (by decide) ?_
                    refine mx_callS (bc := 0 + 15) (bs := 0 + 90) (As := [.ref a, .int (nI 11), .int (nI (x % 4)), .int (nI ((x / 4) % 4)), .int (nI 0)]) (rest := []) (b1 := 1) (b2 := 6) dL_holds_615 (lc_exchange G30 I30 a z hW30 (nI (x % 4)) (nI ((x / 4) % 4)) (nI 0)) km_L_call rfl k_664 k_665 rfl rfl (Nat.le_of_ble_eq_true rfl) (by decide) (fun _ _ _ q => q.elim) (fun r61 G31 I31 h62 => ?_)
                    obtain ⟨e9, hQ31⟩ := h62
                    rw [tv_0 (fl_sw0 _ _ hx4 hx5 : fl_exchange (nI (x % 4)) (nI ((x / 4) % 4)) = 0)] at e9
                    rw [show nI (gCh (gK (zG z)) (nI (x % 4)).toInt.toNat (nI ((x / 4) % 4)).toInt.toNat (gN (zG z))) = nI (gCh (gK (zG z)) (x % 4) (x / 4 % 4) (gN (zG z))) from by rw [nI_tt (by omega), nI_tt (by omega), hG4]] at e9
                    rw [tz_0 (fl_sw0 _ _ hx4 hx5 : fl_exchange (nI (x % 4)) (nI ((x / 4) % 4)) = 0)] at hQ31
                    subst e9
                    have hA31 := hA30.tr hQ31
                    have hW31 := hQ31.1
                    obtain ⟨z5, hz5⟩ : ∃ q, (nx_exchange z (nI (x % 4)).toInt.toNat (nI ((x / 4) % 4)).toInt.toNat) = q := ⟨_, rfl⟩
                    rw [hz5] at hQ31 hA31 hW31
                    refine mx_istoreE (i := 11) (ls' := [some (.ref a), some (.int (nI x)), some (.int (nI (gP (zG z)))), some (.int (nI (gN (zG z)))), some (.int (nI ((xP (zG z) (vA (zX z)) i 0).1))), some (.int (oI (xP (zG z) (vA (zX z)) i 0).2)), some (.int (nI 1)), some (.int (nI (x % (gN (zG z))))), some (.int (nI (gF (zG z) (x % gN (zG z))))), some (.int (nI (gT (zG z) (x % gN (zG z))))), some (.int (-9999003)), some (.int (nI (gCh (gK (zG z)) (x % 4) (x / 4 % 4) (gN (zG z))))), none, none, none, none, none]) (hd := dL_holds_618) (hn := by decide) (hok := rfl) (hls := rfl) ?_
                    refine mx_iload (i := 6) (hl := rfl) (hd := dL_holds_620) ?_
                    refine mx_if1_eq 673 dL_holds_622 (by decide) ?_
                    refine mx_aload_n (i := 0) (hi := rfl) (hl := rfl) (hd := dL_holds_625) ?_
                    refine mx_bipushN 11 dL_holds_626 (by decide) ?_
                    refine mx_iload_n (i := 1) (hi := rfl) (hl := rfl) (hd := dL_holds_628) ?_
                    refine mx_iconstN 4 dL_holds_629 (by decide) ?_
                    refine mx_idivN dL_holds_630 (by omega) (by decide) ?_
                    refine mx_iconstN 4 dL_holds_631 (by decide) ?_
                    refine mx_iremN dL_holds_632 (by omega) (by decide) ?_
                    refine mx_iload_n (i := 1) (hi := rfl) (hl := rfl) (hd := dL_holds_633) ?_
                    refine mx_iconstN 4 dL_holds_634 (by decide) ?_
                    refine mx_iremN dL_holds_635 (by omega) (by decide) ?_
                    refine mx_iconstN 0 dL_holds_636 (by decide) ?_
                    refine mx_callS (bc := 0 + 14) (bs := 0 + 84) (As := [.ref a, .int (nI 11), .int (nI ((x / 4) % 4)), .int (nI (x % 4)), .int (nI 0)]) (rest := []) (b1 := 1) (b2 := 6) dL_holds_637 (lc_exchange G31 I31 a z5 hW31 (nI ((x / 4) % 4)) (nI (x % 4)) (nI 0)) km_L_call rfl k_664 k_665 rfl rfl (Nat.le_of_ble_eq_true rfl) (by decide) (fun _ _ _ q => q.elim) (fun r63 G32 I32 h64 => ?_)
                    obtain ⟨e9, hQ32⟩ := h64
                    rw [tv_0 (fl_sw0 _ _ hx5 hx4 : fl_exchange (nI ((x / 4) % 4)) (nI (x % 4)) = 0)] at e9
                    rw [show nI (gCh (gK (zG z5)) (nI ((x / 4) % 4)).toInt.toNat (nI (x % 4)).toInt.toNat (gN (zG z5))) = nI (gCh (gK (zG z)) (x % 4) (x / 4 % 4) (gN (zG z))) from by rw [nI_tt (by omega), nI_tt (by omega), ← hz5, nI_tt (by omega), nI_tt (by omega), ← ch_2 (gK (zG z)) (x % 4) (x / 4 % 4), ← hG4]; rfl] at e9
                    rw [tz_0 (fl_sw0 _ _ hx5 hx4 : fl_exchange (nI ((x / 4) % 4)) (nI (x % 4)) = 0)] at hQ32
                    subst e9
                    have hA32 := hA31.tr hQ32
                    have hW32 := hQ32.1
                    obtain ⟨z6, hz6⟩ : ∃ q, (nx_exchange z5 (nI ((x / 4) % 4)).toInt.toNat (nI (x % 4)).toInt.toNat) = q := ⟨_, rfl⟩
                    rw [hz6] at hQ32 hA32 hW32
                    refine mx_iload (i := 11) (hl := rfl) (hd := dL_holds_640) ?_
                    refine mx_cmpN_ne 673 dL_holds_642 (by decide) (hch) (hch) (fun c642 => ?_) (fun c642 => ?_)
                    · skip
                      exact absurd rfl c642
                    · skip
                      have hu3 : fl_undo z6 = 0 := by rw [← hz6]; exact un_1 _ _
                      have hc6 : zC z6 - 1 < 2 ^ 31 := by have := hW32.2.2.2.1.1; omega
                      refine mx_aload_n (i := 0) (hi := rfl) (hl := rfl) (hd := dL_holds_645) ?_
                      refine mx_bipushN 13 dL_holds_646 (by decide) ?_
                      refine mx_iconstN 0 dL_holds_648 (by decide) ?_
                      refine mx_iconstN 0 dL_holds_649 (by decide) ?_
                      refine mx_iconstN 0 dL_holds_650 (by decide) ?_
                      refine mx_callS (bc := 0 + 13) (bs := 0 + 78) (As := [.ref a, .int (nI 13), .int (nI 0), .int (nI 0), .int (nI 0)]) (rest := []) (b1 := 1) (b2 := 6) dL_holds_651 (lc_undo G32 I32 a z6 hW32 (nI 0) (nI 0) (nI 0)) km_L_call rfl k_664 k_665 rfl rfl (Nat.le_of_ble_eq_true rfl) (by decide) (fun _ _ _ q => q.elim) (fun r65 G33 I33 h66 => ?_)
                      obtain ⟨e9, hQ33⟩ := h66
                      rw [tv_0 (hu3 : fl_undo z6 = 0)] at e9
                      rw [tz_0 (hu3 : fl_undo z6 = 0)] at hQ33
                      subst e9
                      have hA33 := hA32.tr hQ33
                      have hW33 := hQ33.1
                      obtain ⟨z7, hz7⟩ : ∃ q, (nx_undo z6) = q := ⟨_, rfl⟩
                      rw [hz7] at hQ33 hA33 hW33
                      refine mx_ifN_lt 673 dL_holds_654 (by decide) (hc6) (fun c654 => ?_) (fun c654 => ?_)
                      · skip
                        exact absurd c654 (Nat.not_lt_zero _)
                      · skip
                        have hu4 : fl_undo z7 = 0 := by rw [← hz7, ← hz6, ← hz5]; exact un_2 _ _ _
                        have hc7 : zC z7 - 1 < 2 ^ 31 := by have := hW33.2.2.2.1.1; omega
                        refine mx_aload_n (i := 0) (hi := rfl) (hl := rfl) (hd := dL_holds_657) ?_
                        refine mx_bipushN 13 dL_holds_658 (by decide) ?_
                        refine mx_iconstN 0 dL_holds_660 (by decide) ?_
                        refine mx_iconstN 0 dL_holds_661 (by decide) ?_
                        refine mx_iconstN 0 dL_holds_662 (by decide) ?_
                        refine mx_callS (bc := 0 + 12) (bs := 0 + 72) (As := [.ref a, .int (nI 13), .int (nI 0), .int (nI 0), .int (nI 0)]) (rest := []) (b1 := 1) (b2 := 6) dL_holds_663 (lc_undo G33 I33 a z7 hW33 (nI 0) (nI 0) (nI 0)) km_L_call rfl k_664 k_665 rfl rfl (Nat.le_of_ble_eq_true rfl) (by decide) (fun _ _ _ q => q.elim) (fun r67 G34 I34 h68 => ?_)
                        obtain ⟨e9, hQ34⟩ := h68
                        rw [tv_0 (hu4 : fl_undo z7 = 0)] at e9
                        rw [tz_0 (hu4 : fl_undo z7 = 0)] at hQ34
                        subst e9
                        have hA34 := hA33.tr hQ34
                        have hW34 := hQ34.1
                        obtain ⟨z8, hz8⟩ : ∃ q, (nx_undo z7) = q := ⟨_, rfl⟩
                        rw [hz8] at hQ34 hA34 hW34
                        refine mx_ifN_lt 673 dL_holds_666 (by decide) (hc7) (fun c666 => ?_) (fun c666 => ?_)
                        · skip
                          exact absurd c666 (Nat.not_lt_zero _)
                        · skip
                          refine mx_iconstN 1 dL_holds_669 (by decide) ?_
                          refine mx_goto (tgt := 674) dL_holds_670 (by decide) ?_
                          refine mx_istoreE (i := 6) (ls' := [some (.ref a), some (.int (nI x)), some (.int (nI (gP (zG z)))), some (.int (nI (gN (zG z)))), some (.int (nI ((xP (zG z) (vA (zX z)) i 0).1))), some (.int (oI (xP (zG z) (vA (zX z)) i 0).2)), some (.int (nI 1)), some (.int (nI (x % (gN (zG z))))), some (.int (nI (gF (zG z) (x % gN (zG z))))), some (.int (nI (gT (zG z) (x % gN (zG z))))), some (.int (-9999003)), some (.int (nI (gCh (gK (zG z)) (x % 4) (x / 4 % 4) (gN (zG z))))), none, none, none, none, none]) (hd := dL_holds_674) (hn := by decide) (hok := rfl) (hls := rfl) ?_
                          have hX8 : zX z8 = zX z := by rw [← hz8, ← hz7, ← hz6, ← hz5]; exact (un_X _ _ _).trans hX4
                          have hG8 : zG z8 = zG z := congrArg Prod.fst hX8
                          refine mx_iload (i := 6) (hl := rfl) (hd := dL_holds_676) ?_
                          refine mx_if1_eq 698 dL_holds_678 (by decide) ?_
                          refine mx_aload_n (i := 0) (hi := rfl) (hl := rfl) (hd := dL_holds_681) ?_
                          refine mx_iconstN 2 dL_holds_682 (by decide) ?_
                          refine mx_iconstN 5 dL_holds_683 (by decide) ?_
                          refine mx_iconstN 0 dL_holds_684 (by decide) ?_
                          refine mx_iconstN 0 dL_holds_685 (by decide) ?_
                          refine mx_callS (bc := 0 + 11) (bs := 0 + 66) (As := [.ref a, .int (nI 2), .int (nI 5), .int (nI 0), .int (nI 0)]) (rest := []) (b1 := 1) (b2 := 6) dL_holds_686 (lc_about G34 I34 a z8 hW34 (nI 5) (nI 0) (nI 0)) km_L_call rfl k_664 k_665 rfl rfl (Nat.le_of_ble_eq_true rfl) (by decide) (fun _ _ _ q => q.elim) (fun r69 G35 I35 h70 => ?_)
                          obtain ⟨e9, hQ35⟩ := h70
                          rw [tv_0 (by decide : fl_about (nI 5) = 0)] at e9
                          rw [show an_about z8 (nI 5).toInt.toNat = nI ((xP (zG z) (vA (zX z)) (gP (zG z)) 0).1) from by show nI (svP _ _ 0 _).1 = _; rw [hG8, hX8, hxs]] at e9
                          subst e9
                          have hA35 := hA34.tr hQ35
                          have hW35 := hQ35.1
                          refine mx_iload (i := 4) (hl := rfl) (hd := dL_holds_689) ?_
                          refine mx_top (y := nI ((xP (zG z) (vA (zX z)) (gP (zG z)) 0).1)) (by rw [eiP]) ?_
                          refine mx_cmpN_ne 698 dL_holds_691 (by decide) (hx1) (hx1) (fun c691 => ?_) (fun c691 => ?_)
                          · skip
                            exact absurd rfl c691
                          · skip
                            refine mx_iconstN 1 dL_holds_694 (by decide) ?_
                            refine mx_goto (tgt := 699) dL_holds_695 (by decide) ?_
                            exact mx_iret dL_holds_699 rfl (by decide) (⟨rfl, by unfold hoZ; rw [if_neg (by omega), if_neg (fun q => by rw [hT] at q; cases q), hz5, hz6, hz7, hz8]; exact hA35⟩)
                  · skip
                    exact absurd rfl c533
            · skip
              refine mx_top (y := nI 1) (if_pos hE) ?_
              have hge := xP_ge hE (v := zG z) (gP (zG z)) 0 (Nat.le_refl _) (Nat.zero_le _)
              refine mx_if1_eq 474 dL_holds_465 (by decide) ?_
              refine mx_iload (i := 4) (hl := rfl) (hd := dL_holds_468) ?_
              refine mx_top (y := nI ((xP (zG z) (vA (zX z)) (gP (zG z)) 0).1)) (by rw [eiP]) ?_
              refine mx_iload_n (i := 2) (hi := rfl) (hl := rfl) (hd := dL_holds_470) ?_
              refine mx_cmpN_lt 478 dL_holds_471 (by decide) (hx1) (by omega) (fun c471 => ?_) (fun c471 => ?_)
              · skip
                exact absurd hge (by rw [if_neg (by omega)]; omega)
              · skip
                refine mx_iconstN 1 dL_holds_474 (by decide) ?_
                refine mx_goto (tgt := 479) dL_holds_475 (by decide) ?_
                refine mx_istoreE (i := 6) (ls' := [some (.ref a), some (.int (nI x)), some (.int (nI (gP (zG z)))), some (.int (nI (gN (zG z)))), some (.int (nI ((xP (zG z) (vA (zX z)) i 0).1))), some (.int (oI (xP (zG z) (vA (zX z)) i 0).2)), some (.int (nI 1)), some (.int (nI i)), none, none, none, none, none, none, none, none, none]) (hd := dL_holds_479) (hn := by decide) (hok := rfl) (hls := rfl) ?_
                refine mx_iload_n (i := 3) (hi := rfl) (hl := rfl) (hd := dL_holds_481) ?_
                refine mx_ifN_le 676 dL_holds_482 (by decide) (by omega) (fun c482 => ?_) (fun c482 => ?_)
                · skip
                  have hN0 : gN (zG z) = 0 := by omega
                  refine mx_iload (i := 6) (hl := rfl) (hd := dL_holds_676) ?_
                  refine mx_if1_eq 698 dL_holds_678 (by decide) ?_
                  refine mx_aload_n (i := 0) (hi := rfl) (hl := rfl) (hd := dL_holds_681) ?_
                  refine mx_iconstN 2 dL_holds_682 (by decide) ?_
                  refine mx_iconstN 5 dL_holds_683 (by decide) ?_
                  refine mx_iconstN 0 dL_holds_684 (by decide) ?_
                  refine mx_iconstN 0 dL_holds_685 (by decide) ?_
                  refine mx_callS (bc := 0 + 16) (bs := 0 + 96) (As := [.ref a, .int (nI 2), .int (nI 5), .int (nI 0), .int (nI 0)]) (rest := []) (b1 := 1) (b2 := 6) dL_holds_686 (lc_about G19 I19 a z hW19 (nI 5) (nI 0) (nI 0)) km_L_call rfl k_664 k_665 rfl rfl (Nat.le_of_ble_eq_true rfl) (by decide) (fun _ _ _ q => q.elim) (fun r71 G36 I36 h72 => ?_)
                  obtain ⟨e9, hQ36⟩ := h72
                  rw [tv_0 (by decide : fl_about (nI 5) = 0)] at e9
                  rw [show an_about z (nI 5).toInt.toNat = nI ((xP (zG z) (vA (zX z)) (gP (zG z)) 0).1) from by show nI (svP _ _ 0 _).1 = _; rw [hxs]] at e9
                  subst e9
                  have hA36 := hA19.tr hQ36
                  have hW36 := hQ36.1
                  refine mx_iload (i := 4) (hl := rfl) (hd := dL_holds_689) ?_
                  refine mx_top (y := nI ((xP (zG z) (vA (zX z)) (gP (zG z)) 0).1)) (by rw [eiP]) ?_
                  refine mx_cmpN_ne 698 dL_holds_691 (by decide) (hx1) (hx1) (fun c691 => ?_) (fun c691 => ?_)
                  · skip
                    exact absurd rfl c691
                  · skip
                    refine mx_iconstN 1 dL_holds_694 (by decide) ?_
                    refine mx_goto (tgt := 699) dL_holds_695 (by decide) ?_
                    exact mx_iret dL_holds_699 rfl (by decide) (⟨rfl, by unfold hoZ; rw [if_pos hN0]; exact hA36⟩)
                · skip
                  have hN1 : 0 < gN (zG z) := by omega
                  have hsx : x % gN (zG z) < gN (zG z) := Nat.mod_lt _ hN1
                  have hx4 : x % 4 < 4 := Nat.mod_lt _ (by decide)
                  have hx5 : x / 4 % 4 < 4 := Nat.mod_lt _ (by decide)
                  refine mx_iload (i := 6) (hl := rfl) (hd := dL_holds_485) ?_
                  refine mx_if1_eq 676 dL_holds_487 (by decide) ?_
                  refine mx_iload_n (i := 1) (hi := rfl) (hl := rfl) (hd := dL_holds_490) ?_
                  refine mx_iload_n (i := 3) (hi := rfl) (hl := rfl) (hd := dL_holds_491) ?_
                  refine mx_iremN dL_holds_492 (by omega) (by omega) ?_
                  refine mx_istoreE (i := 7) (ls' := [some (.ref a), some (.int (nI x)), some (.int (nI (gP (zG z)))), some (.int (nI (gN (zG z)))), some (.int (nI ((xP (zG z) (vA (zX z)) i 0).1))), some (.int (oI (xP (zG z) (vA (zX z)) i 0).2)), some (.int (nI 1)), some (.int (nI (x % (gN (zG z))))), none, none, none, none, none, none, none, none, none]) (hd := dL_holds_493) (hn := by decide) (hok := rfl) (hls := rfl) ?_
                  refine mx_aload_n (i := 0) (hi := rfl) (hl := rfl) (hd := dL_holds_495) ?_
                  refine mx_iconstN 3 dL_holds_496 (by decide) ?_
                  refine mx_iload (i := 7) (hl := rfl) (hd := dL_holds_497) ?_
                  refine mx_iconstN 0 dL_holds_499 (by decide) ?_
                  refine mx_iconstN 0 dL_holds_500 (by decide) ?_
                  refine mx_callSp (As := [.ref a, .int (nI 3), .int (nI (x % (gN (zG z)))), .int (nI 0), .int (nI 0)]) (rest := []) dL_holds_501 (lc_stepT G19 I19 a z hW19 (x % (gN (zG z))) 0 hsx (by decide) (nI 0)) km_L_call rfl k_664 k_665 rfl rfl (Nat.le_of_ble_eq_true rfl) (by decide) ?_
                  refine mx_top (y := nI (gF (zG z) (x % gN (zG z)))) (rfl) ?_
                  refine mx_istoreE (i := 8) (ls' := [some (.ref a), some (.int (nI x)), some (.int (nI (gP (zG z)))), some (.int (nI (gN (zG z)))), some (.int (nI ((xP (zG z) (vA (zX z)) i 0).1))), some (.int (oI (xP (zG z) (vA (zX z)) i 0).2)), some (.int (nI 1)), some (.int (nI (x % (gN (zG z))))), some (.int (nI (gF (zG z) (x % gN (zG z))))), none, none, none, none, none, none, none, none]) (hd := dL_holds_504) (hn := by decide) (hok := rfl) (hls := rfl) ?_
                  refine mx_aload_n (i := 0) (hi := rfl) (hl := rfl) (hd := dL_holds_506) ?_
                  refine mx_iconstN 3 dL_holds_507 (by decide) ?_
                  refine mx_iload (i := 7) (hl := rfl) (hd := dL_holds_508) ?_
                  refine mx_iconstN 2 dL_holds_510 (by decide) ?_
                  refine mx_iconstN 0 dL_holds_511 (by decide) ?_
                  refine mx_callSp (As := [.ref a, .int (nI 3), .int (nI (x % (gN (zG z)))), .int (nI 2), .int (nI 0)]) (rest := []) dL_holds_512 (lc_stepT G19 I19 a z hW19 (x % (gN (zG z))) 2 hsx (by decide) (nI 0)) km_L_call rfl k_664 k_665 rfl rfl (Nat.le_of_ble_eq_true rfl) (by decide) ?_
                  refine mx_top (y := nI (gT (zG z) (x % gN (zG z)))) (rfl) ?_
                  refine mx_istoreE (i := 9) (ls' := [some (.ref a), some (.int (nI x)), some (.int (nI (gP (zG z)))), some (.int (nI (gN (zG z)))), some (.int (nI ((xP (zG z) (vA (zX z)) i 0).1))), some (.int (oI (xP (zG z) (vA (zX z)) i 0).2)), some (.int (nI 1)), some (.int (nI (x % (gN (zG z))))), some (.int (nI (gF (zG z) (x % gN (zG z))))), some (.int (nI (gT (zG z) (x % gN (zG z))))), none, none, none, none, none, none, none]) (hd := dL_holds_515) (hn := by decide) (hok := rfl) (hls := rfl) ?_
                  rcases fl_turn_03 hsx hN24 with hT | hT
                  · skip
                    have hg9 := hvb9 _ hsx
                    refine mx_aload_n (i := 0) (hi := rfl) (hl := rfl) (hd := dL_holds_517) ?_
                    refine mx_bipushN 10 dL_holds_518 (by decide) ?_
                    refine mx_iload (i := 7) (hl := rfl) (hd := dL_holds_520) ?_
                    refine mx_iconstN 0 dL_holds_522 (by decide) ?_
                    refine mx_iconstN 0 dL_holds_523 (by decide) ?_
                    refine mx_callS (bc := 0 + 16) (bs := 0 + 96) (As := [.ref a, .int (nI 10), .int (nI (x % (gN (zG z)))), .int (nI 0), .int (nI 0)]) (rest := []) (b1 := 1) (b2 := 6) dL_holds_524 (lc_turn G19 I19 a z hW19 (nI (x % (gN (zG z)))) (nI 0) (nI 0)) km_L_call rfl k_664 k_665 rfl rfl (Nat.le_of_ble_eq_true rfl) (by decide) (fun _ _ _ q => q.elim) (fun r73 G37 I37 h74 => ?_)
                    obtain ⟨e9, hQ37⟩ := h74
                    rw [tv_0 (hT : fl_turn z (nI (x % (gN (zG z)))) = 0)] at e9
                    rw [show nI (gT (zG z) (nI (x % (gN (zG z)))).toInt.toNat) = nI (gT (zG z) (x % gN (zG z))) from by rw [nI_tt (by omega)]] at e9
                    rw [tz_0 (hT : fl_turn z (nI (x % (gN (zG z)))) = 0)] at hQ37
                    subst e9
                    have hA37 := hA19.tr hQ37
                    have hW37 := hQ37.1
                    obtain ⟨z1, hz1⟩ : ∃ q, (nx_turn z (nI (x % (gN (zG z)))).toInt.toNat) = q := ⟨_, rfl⟩
                    rw [hz1] at hQ37 hA37 hW37
                    refine mx_istoreE (i := 10) (ls' := [some (.ref a), some (.int (nI x)), some (.int (nI (gP (zG z)))), some (.int (nI (gN (zG z)))), some (.int (nI ((xP (zG z) (vA (zX z)) i 0).1))), some (.int (oI (xP (zG z) (vA (zX z)) i 0).2)), some (.int (nI 1)), some (.int (nI (x % (gN (zG z))))), some (.int (nI (gF (zG z) (x % gN (zG z))))), some (.int (nI (gT (zG z) (x % gN (zG z))))), some (.int (nI (gT (zG z) (x % gN (zG z))))), none, none, none, none, none, none]) (hd := dL_holds_527) (hn := by decide) (hok := rfl) (hls := rfl) ?_
                    refine mx_iload (i := 10) (hl := rfl) (hd := dL_holds_529) ?_
                    refine mx_ldc (v := (-9999003)) k_675 dL_holds_531 ?_
                    refine mx_icmp_eq (tgt := 596) dL_holds_533 (by decide) (fun c533 => ?_) (fun c533 => ?_)
                    · skip
                      exact absurd c533 (nI_n9 (by omega))
                    · skip
                      
                      refine mx_iload (i := 10) (hl := rfl) (hd := dL_holds_536) ?_
                      refine mx_iload (i := 9) (hl := rfl) (hd := dL_holds_538) ?_
                      refine mx_cmpN_ne 600 dL_holds_540 (by decide) (by omega) (by omega) (fun c540 => ?_) (fun c540 => ?_)
                      · skip
                        exact absurd rfl c540
                      · skip
                        have hN1z : gN (zG z1) = gN (zG z) := (tn_F (by omega) hz1).2.2
                        have hsx1 : x % gN (zG z) < gN (zG z1) := by rw [hN1z]; exact hsx
                        refine mx_aload_n (i := 0) (hi := rfl) (hl := rfl) (hd := dL_holds_543) ?_
                        refine mx_iconstN 3 dL_holds_544 (by decide) ?_
                        refine mx_iload (i := 7) (hl := rfl) (hd := dL_holds_545) ?_
                        refine mx_iconstN 2 dL_holds_547 (by decide) ?_
                        refine mx_iconstN 0 dL_holds_548 (by decide) ?_
                        refine mx_callSp (As := [.ref a, .int (nI 3), .int (nI (x % (gN (zG z)))), .int (nI 2), .int (nI 0)]) (rest := []) dL_holds_549 (lc_stepT G37 I37 a z1 hW37 (x % (gN (zG z))) 2 hsx1 (by decide) (nI 0)) km_L_call rfl k_664 k_665 rfl rfl (Nat.le_of_ble_eq_true rfl) (by decide) ?_
                        refine mx_top (y := nI (gF (zG z) (x % gN (zG z)))) (by rw [← (tn_F (by omega) hz1).2.1]; rfl) ?_
                        refine mx_iload (i := 8) (hl := rfl) (hd := dL_holds_552) ?_
                        refine mx_cmpN_ne 600 dL_holds_554 (by decide) (by omega) (by omega) (fun c554 => ?_) (fun c554 => ?_)
                        · skip
                          exact absurd rfl c554
                        · skip
                          refine mx_aload_n (i := 0) (hi := rfl) (hl := rfl) (hd := dL_holds_557) ?_
                          refine mx_bipushN 10 dL_holds_558 (by decide) ?_
                          refine mx_iload (i := 7) (hl := rfl) (hd := dL_holds_560) ?_
                          refine mx_iconstN 0 dL_holds_562 (by decide) ?_
                          refine mx_iconstN 0 dL_holds_563 (by decide) ?_
                          refine mx_callS (bc := 0 + 15) (bs := 0 + 90) (As := [.ref a, .int (nI 10), .int (nI (x % (gN (zG z)))), .int (nI 0), .int (nI 0)]) (rest := []) (b1 := 1) (b2 := 6) dL_holds_564 (lc_turn G37 I37 a z1 hW37 (nI (x % (gN (zG z)))) (nI 0) (nI 0)) km_L_call rfl k_664 k_665 rfl rfl (Nat.le_of_ble_eq_true rfl) (by decide) (fun _ _ _ q => q.elim) (fun r75 G38 I38 h76 => ?_)
                          obtain ⟨e9, hQ38⟩ := h76
                          rw [tv_0 (fl_turn_2 hJ.2.1 hsx hN24 hT hz1 : fl_turn z1 (nI (x % (gN (zG z)))) = 0)] at e9
                          rw [show nI (gT (zG z1) (nI (x % (gN (zG z)))).toInt.toNat) = nI (gF (zG z) (x % gN (zG z))) from by rw [nI_tt (by omega), (tn_F (by omega) hz1).2.1]] at e9
                          rw [tz_0 (fl_turn_2 hJ.2.1 hsx hN24 hT hz1 : fl_turn z1 (nI (x % (gN (zG z)))) = 0)] at hQ38
                          subst e9
                          have hA38 := hA37.tr hQ38
                          have hW38 := hQ38.1
                          obtain ⟨z2, hz2⟩ : ∃ q, (nx_turn z1 (nI (x % (gN (zG z)))).toInt.toNat) = q := ⟨_, rfl⟩
                          rw [hz2] at hQ38 hA38 hW38
                          refine mx_iload (i := 8) (hl := rfl) (hd := dL_holds_567) ?_
                          refine mx_cmpN_ne 600 dL_holds_569 (by decide) (by omega) (by omega) (fun c569 => ?_) (fun c569 => ?_)
                          · skip
                            exact absurd rfl c569
                          · skip
                            have hu1 : fl_undo z2 = 0 := by rw [← hz2]; exact un_1 _ _
                            have hc2 : zC z2 - 1 < 2 ^ 31 := by have := hW38.2.2.2.1.1; omega
                            refine mx_aload_n (i := 0) (hi := rfl) (hl := rfl) (hd := dL_holds_572) ?_
                            refine mx_bipushN 13 dL_holds_573 (by decide) ?_
                            refine mx_iconstN 0 dL_holds_575 (by decide) ?_
                            refine mx_iconstN 0 dL_holds_576 (by decide) ?_
                            refine mx_iconstN 0 dL_holds_577 (by decide) ?_
                            refine mx_callS (bc := 0 + 14) (bs := 0 + 84) (As := [.ref a, .int (nI 13), .int (nI 0), .int (nI 0), .int (nI 0)]) (rest := []) (b1 := 1) (b2 := 6) dL_holds_578 (lc_undo G38 I38 a z2 hW38 (nI 0) (nI 0) (nI 0)) km_L_call rfl k_664 k_665 rfl rfl (Nat.le_of_ble_eq_true rfl) (by decide) (fun _ _ _ q => q.elim) (fun r77 G39 I39 h78 => ?_)
                            obtain ⟨e9, hQ39⟩ := h78
                            rw [tv_0 (hu1 : fl_undo z2 = 0)] at e9
                            rw [tz_0 (hu1 : fl_undo z2 = 0)] at hQ39
                            subst e9
                            have hA39 := hA38.tr hQ39
                            have hW39 := hQ39.1
                            obtain ⟨z3, hz3⟩ : ∃ q, (nx_undo z2) = q := ⟨_, rfl⟩
                            rw [hz3] at hQ39 hA39 hW39
                            refine mx_ifN_lt 600 dL_holds_581 (by decide) (hc2) (fun c581 => ?_) (fun c581 => ?_)
                            · skip
                              exact absurd c581 (Nat.not_lt_zero _)
                            · skip
                              have hu2 : fl_undo z3 = 0 := by rw [← hz3, ← hz2, ← hz1]; exact un_2 _ _ _
                              have hc3 : zC z3 - 1 < 2 ^ 31 := by have := hW39.2.2.2.1.1; omega
                              refine mx_aload_n (i := 0) (hi := rfl) (hl := rfl) (hd := dL_holds_584) ?_
                              refine mx_bipushN 13 dL_holds_585 (by decide) ?_
                              refine mx_iconstN 0 dL_holds_587 (by decide) ?_
                              refine mx_iconstN 0 dL_holds_588 (by decide) ?_
                              refine mx_iconstN 0 dL_holds_589 (by decide) ?_
                              refine mx_callS (bc := 0 + 13) (bs := 0 + 78) (As := [.ref a, .int (nI 13), .int (nI 0), .int (nI 0), .int (nI 0)]) (rest := []) (b1 := 1) (b2 := 6) dL_holds_590 (lc_undo G39 I39 a z3 hW39 (nI 0) (nI 0) (nI 0)) km_L_call rfl k_664 k_665 rfl rfl (Nat.le_of_ble_eq_true rfl) (by decide) (fun _ _ _ q => q.elim) (fun r79 G40 I40 h80 => ?_)
                              obtain ⟨e9, hQ40⟩ := h80
                              rw [tv_0 (hu2 : fl_undo z3 = 0)] at e9
                              rw [tz_0 (hu2 : fl_undo z3 = 0)] at hQ40
                              subst e9
                              have hA40 := hA39.tr hQ40
                              have hW40 := hQ40.1
                              obtain ⟨z4, hz4⟩ : ∃ q, (nx_undo z3) = q := ⟨_, rfl⟩
                              rw [hz4] at hQ40 hA40 hW40
                              refine mx_ifN_lt 600 dL_holds_593 (by decide) (hc3) (fun c593 => ?_) (fun c593 => ?_)
                              · skip
                                exact absurd c593 (Nat.not_lt_zero _)
                              · skip
                                refine mx_iconstN 1 dL_holds_596 (by decide) ?_
                                refine mx_goto (tgt := 601) dL_holds_597 (by decide) ?_
                                refine mx_istoreE (i := 6) (ls' := [some (.ref a), some (.int (nI x)), some (.int (nI (gP (zG z)))), some (.int (nI (gN (zG z)))), some (.int (nI ((xP (zG z) (vA (zX z)) i 0).1))), some (.int (oI (xP (zG z) (vA (zX z)) i 0).2)), some (.int (nI 1)), some (.int (nI (x % (gN (zG z))))), some (.int (nI (gF (zG z) (x % gN (zG z))))), some (.int (nI (gT (zG z) (x % gN (zG z))))), some (.int (nI (gT (zG z) (x % gN (zG z))))), none, none, none, none, none, none]) (hd := dL_holds_601) (hn := by decide) (hok := rfl) (hls := rfl) ?_
                                have hX4 : zX z4 = zX z := by rw [← hz4, ← hz3, ← hz2, ← hz1]; exact un_X _ _ _
                                have hG4 : zG z4 = zG z := congrArg Prod.fst hX4
                                have hch : gCh (gK (zG z)) (x % 4) (x / 4 % 4) (gN (zG z)) < 2 ^ 31 := Nat.lt_of_le_of_lt (gCh_le9 _ _ _ _) (by omega)
                                refine mx_aload_n (i := 0) (hi := rfl) (hl := rfl) (hd := dL_holds_603) ?_
                                refine mx_bipushN 11 dL_holds_604 (by decide) ?_
                                refine mx_iload_n (i := 1) (hi := rfl) (hl := rfl) (hd := dL_holds_606) ?_
                                refine mx_iconstN 4 dL_holds_607 (by decide) ?_
                                refine mx_iremN dL_holds_608 (by omega) (by decide) ?_
                                refine mx_iload_n (i := 1) (hi := rfl) (hl := rfl) (hd := dL_holds_609) ?_
                                refine mx_iconstN 4 dL_holds_610 (by decide) ?_
                                refine mx_idivN dL_holds_611 (by omega) (by decide) ?_
                                refine mx_iconstN 4 dL_holds_612 (by decide) ?_
                                refine mx_iremN dL_holds_613 (by omega) (by decide) ?_
                                refine mx_iconstN 0 dL_holds_614 (by decide) ?_
                                refine mx_callS (bc := 0 + 12) (bs := 0 + 72) (As := [.ref a, .int (nI 11), .int (nI (x % 4)), .int (nI ((x / 4) % 4)), .int (nI 0)]) (rest := []) (b1 := 1) (b2 := 6) dL_holds_615 (lc_exchange G40 I40 a z4 hW40 (nI (x % 4)) (nI ((x / 4) % 4)) (nI 0)) km_L_call rfl k_664 k_665 rfl rfl (Nat.le_of_ble_eq_true rfl) (by decide) (fun _ _ _ q => q.elim) (fun r81 G41 I41 h82 => ?_)
                                obtain ⟨e9, hQ41⟩ := h82
                                rw [tv_0 (fl_sw0 _ _ hx4 hx5 : fl_exchange (nI (x % 4)) (nI ((x / 4) % 4)) = 0)] at e9
                                rw [show nI (gCh (gK (zG z4)) (nI (x % 4)).toInt.toNat (nI ((x / 4) % 4)).toInt.toNat (gN (zG z4))) = nI (gCh (gK (zG z)) (x % 4) (x / 4 % 4) (gN (zG z))) from by rw [nI_tt (by omega), nI_tt (by omega), hG4]] at e9
                                rw [tz_0 (fl_sw0 _ _ hx4 hx5 : fl_exchange (nI (x % 4)) (nI ((x / 4) % 4)) = 0)] at hQ41
                                subst e9
                                have hA41 := hA40.tr hQ41
                                have hW41 := hQ41.1
                                obtain ⟨z5, hz5⟩ : ∃ q, (nx_exchange z4 (nI (x % 4)).toInt.toNat (nI ((x / 4) % 4)).toInt.toNat) = q := ⟨_, rfl⟩
                                rw [hz5] at hQ41 hA41 hW41
                                refine mx_istoreE (i := 11) (ls' := [some (.ref a), some (.int (nI x)), some (.int (nI (gP (zG z)))), some (.int (nI (gN (zG z)))), some (.int (nI ((xP (zG z) (vA (zX z)) i 0).1))), some (.int (oI (xP (zG z) (vA (zX z)) i 0).2)), some (.int (nI 1)), some (.int (nI (x % (gN (zG z))))), some (.int (nI (gF (zG z) (x % gN (zG z))))), some (.int (nI (gT (zG z) (x % gN (zG z))))), some (.int (nI (gT (zG z) (x % gN (zG z))))), some (.int (nI (gCh (gK (zG z)) (x % 4) (x / 4 % 4) (gN (zG z))))), none, none, none, none, none]) (hd := dL_holds_618) (hn := by decide) (hok := rfl) (hls := rfl) ?_
                                refine mx_iload (i := 6) (hl := rfl) (hd := dL_holds_620) ?_
                                refine mx_if1_eq 673 dL_holds_622 (by decide) ?_
                                refine mx_aload_n (i := 0) (hi := rfl) (hl := rfl) (hd := dL_holds_625) ?_
                                refine mx_bipushN 11 dL_holds_626 (by decide) ?_
                                refine mx_iload_n (i := 1) (hi := rfl) (hl := rfl) (hd := dL_holds_628) ?_
                                refine mx_iconstN 4 dL_holds_629 (by decide) ?_
                                refine mx_idivN dL_holds_630 (by omega) (by decide) ?_
                                refine mx_iconstN 4 dL_holds_631 (by decide) ?_
                                refine mx_iremN dL_holds_632 (by omega) (by decide) ?_
                                refine mx_iload_n (i := 1) (hi := rfl) (hl := rfl) (hd := dL_holds_633) ?_
                                refine mx_iconstN 4 dL_holds_634 (by decide) ?_
                                refine mx_iremN dL_holds_635 (by omega) (by decide) ?_
                                refine mx_iconstN 0 dL_holds_636 (by decide) ?_
                                refine mx_callS (bc := 0 + 11) (bs := 0 + 66) (As := [.ref a, .int (nI 11), .int (nI ((x / 4) % 4)), .int (nI (x % 4)), .int (nI 0)]) (rest := []) (b1 := 1) (b2 := 6) dL_holds_637 (lc_exchange G41 I41 a z5 hW41 (nI ((x / 4) % 4)) (nI (x % 4)) (nI 0)) km_L_call rfl k_664 k_665 rfl rfl (Nat.le_of_ble_eq_true rfl) (by decide) (fun _ _ _ q => q.elim) (fun r83 G42 I42 h84 => ?_)
                                obtain ⟨e9, hQ42⟩ := h84
                                rw [tv_0 (fl_sw0 _ _ hx5 hx4 : fl_exchange (nI ((x / 4) % 4)) (nI (x % 4)) = 0)] at e9
                                rw [show nI (gCh (gK (zG z5)) (nI ((x / 4) % 4)).toInt.toNat (nI (x % 4)).toInt.toNat (gN (zG z5))) = nI (gCh (gK (zG z)) (x % 4) (x / 4 % 4) (gN (zG z))) from by rw [nI_tt (by omega), nI_tt (by omega), ← hz5, nI_tt (by omega), nI_tt (by omega), ← ch_2 (gK (zG z)) (x % 4) (x / 4 % 4), ← hG4]; rfl] at e9
                                rw [tz_0 (fl_sw0 _ _ hx5 hx4 : fl_exchange (nI ((x / 4) % 4)) (nI (x % 4)) = 0)] at hQ42
                                subst e9
                                have hA42 := hA41.tr hQ42
                                have hW42 := hQ42.1
                                obtain ⟨z6, hz6⟩ : ∃ q, (nx_exchange z5 (nI ((x / 4) % 4)).toInt.toNat (nI (x % 4)).toInt.toNat) = q := ⟨_, rfl⟩
                                rw [hz6] at hQ42 hA42 hW42
                                refine mx_iload (i := 11) (hl := rfl) (hd := dL_holds_640) ?_
                                refine mx_cmpN_ne 673 dL_holds_642 (by decide) (hch) (hch) (fun c642 => ?_) (fun c642 => ?_)
                                · skip
                                  exact absurd rfl c642
                                · skip
                                  have hu3 : fl_undo z6 = 0 := by rw [← hz6]; exact un_1 _ _
                                  have hc6 : zC z6 - 1 < 2 ^ 31 := by have := hW42.2.2.2.1.1; omega
                                  refine mx_aload_n (i := 0) (hi := rfl) (hl := rfl) (hd := dL_holds_645) ?_
                                  refine mx_bipushN 13 dL_holds_646 (by decide) ?_
                                  refine mx_iconstN 0 dL_holds_648 (by decide) ?_
                                  refine mx_iconstN 0 dL_holds_649 (by decide) ?_
                                  refine mx_iconstN 0 dL_holds_650 (by decide) ?_
                                  refine mx_callS (bc := 0 + 10) (bs := 0 + 60) (As := [.ref a, .int (nI 13), .int (nI 0), .int (nI 0), .int (nI 0)]) (rest := []) (b1 := 1) (b2 := 6) dL_holds_651 (lc_undo G42 I42 a z6 hW42 (nI 0) (nI 0) (nI 0)) km_L_call rfl k_664 k_665 rfl rfl (Nat.le_of_ble_eq_true rfl) (by decide) (fun _ _ _ q => q.elim) (fun r85 G43 I43 h86 => ?_)
                                  obtain ⟨e9, hQ43⟩ := h86
                                  rw [tv_0 (hu3 : fl_undo z6 = 0)] at e9
                                  rw [tz_0 (hu3 : fl_undo z6 = 0)] at hQ43
                                  subst e9
                                  have hA43 := hA42.tr hQ43
                                  have hW43 := hQ43.1
                                  obtain ⟨z7, hz7⟩ : ∃ q, (nx_undo z6) = q := ⟨_, rfl⟩
                                  rw [hz7] at hQ43 hA43 hW43
                                  refine mx_ifN_lt 673 dL_holds_654 (by decide) (hc6) (fun c654 => ?_) (fun c654 => ?_)
                                  · skip
                                    exact absurd c654 (Nat.not_lt_zero _)
                                  · skip
                                    have hu4 : fl_undo z7 = 0 := by rw [← hz7, ← hz6, ← hz5]; exact un_2 _ _ _
                                    have hc7 : zC z7 - 1 < 2 ^ 31 := by have := hW43.2.2.2.1.1; omega
                                    refine mx_aload_n (i := 0) (hi := rfl) (hl := rfl) (hd := dL_holds_657) ?_
                                    refine mx_bipushN 13 dL_holds_658 (by decide) ?_
                                    refine mx_iconstN 0 dL_holds_660 (by decide) ?_
                                    refine mx_iconstN 0 dL_holds_661 (by decide) ?_
                                    refine mx_iconstN 0 dL_holds_662 (by decide) ?_
                                    refine mx_callS (bc := 0 + 9) (bs := 0 + 54) (As := [.ref a, .int (nI 13), .int (nI 0), .int (nI 0), .int (nI 0)]) (rest := []) (b1 := 1) (b2 := 6) dL_holds_663 (lc_undo G43 I43 a z7 hW43 (nI 0) (nI 0) (nI 0)) km_L_call rfl k_664 k_665 rfl rfl (Nat.le_of_ble_eq_true rfl) (by decide) (fun _ _ _ q => q.elim) (fun r87 G44 I44 h88 => ?_)
                                    obtain ⟨e9, hQ44⟩ := h88
                                    rw [tv_0 (hu4 : fl_undo z7 = 0)] at e9
                                    rw [tz_0 (hu4 : fl_undo z7 = 0)] at hQ44
                                    subst e9
                                    have hA44 := hA43.tr hQ44
                                    have hW44 := hQ44.1
                                    obtain ⟨z8, hz8⟩ : ∃ q, (nx_undo z7) = q := ⟨_, rfl⟩
                                    rw [hz8] at hQ44 hA44 hW44
                                    refine mx_ifN_lt 673 dL_holds_666 (by decide) (hc7) (fun c666 => ?_) (fun c666 => ?_)
                                    · skip
                                      exact absurd c666 (Nat.not_lt_zero _)
                                    · skip
                                      refine mx_iconstN 1 dL_holds_669 (by decide) ?_
                                      refine mx_goto (tgt := 674) dL_holds_670 (by decide) ?_
                                      refine mx_istoreE (i := 6) (ls' := [some (.ref a), some (.int (nI x)), some (.int (nI (gP (zG z)))), some (.int (nI (gN (zG z)))), some (.int (nI ((xP (zG z) (vA (zX z)) i 0).1))), some (.int (oI (xP (zG z) (vA (zX z)) i 0).2)), some (.int (nI 1)), some (.int (nI (x % (gN (zG z))))), some (.int (nI (gF (zG z) (x % gN (zG z))))), some (.int (nI (gT (zG z) (x % gN (zG z))))), some (.int (nI (gT (zG z) (x % gN (zG z))))), some (.int (nI (gCh (gK (zG z)) (x % 4) (x / 4 % 4) (gN (zG z))))), none, none, none, none, none]) (hd := dL_holds_674) (hn := by decide) (hok := rfl) (hls := rfl) ?_
                                      have hX8 : zX z8 = zX z := by rw [← hz8, ← hz7, ← hz6, ← hz5]; exact (un_X _ _ _).trans hX4
                                      have hG8 : zG z8 = zG z := congrArg Prod.fst hX8
                                      refine mx_iload (i := 6) (hl := rfl) (hd := dL_holds_676) ?_
                                      refine mx_if1_eq 698 dL_holds_678 (by decide) ?_
                                      refine mx_aload_n (i := 0) (hi := rfl) (hl := rfl) (hd := dL_holds_681) ?_
                                      refine mx_iconstN 2 dL_holds_682 (by decide) ?_
                                      refine mx_iconstN 5 dL_holds_683 (by decide) ?_
                                      refine mx_iconstN 0 dL_holds_684 (by decide) ?_
                                      refine mx_iconstN 0 dL_holds_685 (by decide) ?_
                                      refine mx_callS (bc := 0 + 8) (bs := 0 + 48) (As := [.ref a, .int (nI 2), .int (nI 5), .int (nI 0), .int (nI 0)]) (rest := []) (b1 := 1) (b2 := 6) dL_holds_686 (lc_about G44 I44 a z8 hW44 (nI 5) (nI 0) (nI 0)) km_L_call rfl k_664 k_665 rfl rfl (Nat.le_of_ble_eq_true rfl) (by decide) (fun _ _ _ q => q.elim) (fun r89 G45 I45 h90 => ?_)
                                      obtain ⟨e9, hQ45⟩ := h90
                                      rw [tv_0 (by decide : fl_about (nI 5) = 0)] at e9
                                      rw [show an_about z8 (nI 5).toInt.toNat = nI ((xP (zG z) (vA (zX z)) (gP (zG z)) 0).1) from by show nI (svP _ _ 0 _).1 = _; rw [hG8, hX8, hxs]] at e9
                                      subst e9
                                      have hA45 := hA44.tr hQ45
                                      have hW45 := hQ45.1
                                      refine mx_iload (i := 4) (hl := rfl) (hd := dL_holds_689) ?_
                                      refine mx_top (y := nI ((xP (zG z) (vA (zX z)) (gP (zG z)) 0).1)) (by rw [eiP]) ?_
                                      refine mx_cmpN_ne 698 dL_holds_691 (by decide) (hx1) (hx1) (fun c691 => ?_) (fun c691 => ?_)
                                      · skip
                                        exact absurd rfl c691
                                      · skip
                                        refine mx_iconstN 1 dL_holds_694 (by decide) ?_
                                        refine mx_goto (tgt := 699) dL_holds_695 (by decide) ?_
                                        exact mx_iret dL_holds_699 rfl (by decide) (⟨rfl, by unfold hoZ; rw [if_neg (by omega), if_pos hT, hz1, hz2, hz3, hz4, hz5, hz6, hz7, hz8]; exact hA45⟩)
                  · skip
                    refine mx_aload_n (i := 0) (hi := rfl) (hl := rfl) (hd := dL_holds_517) ?_
                    refine mx_bipushN 10 dL_holds_518 (by decide) ?_
                    refine mx_iload (i := 7) (hl := rfl) (hd := dL_holds_520) ?_
                    refine mx_iconstN 0 dL_holds_522 (by decide) ?_
                    refine mx_iconstN 0 dL_holds_523 (by decide) ?_
                    refine mx_callS (bc := 0 + 16) (bs := 0 + 96) (As := [.ref a, .int (nI 10), .int (nI (x % (gN (zG z)))), .int (nI 0), .int (nI 0)]) (rest := []) (b1 := 1) (b2 := 6) dL_holds_524 (lc_turn G19 I19 a z hW19 (nI (x % (gN (zG z)))) (nI 0) (nI 0)) km_L_call rfl k_664 k_665 rfl rfl (Nat.le_of_ble_eq_true rfl) (by decide) (fun _ _ _ q => q.elim) (fun r91 G46 I46 h92 => ?_)
                    obtain ⟨e9, hQ46⟩ := h92
                    rw [tv_3 (hT : fl_turn z (nI (x % (gN (zG z)))) = 3)] at e9
                    rw [tz_n (by rw [(hT : fl_turn z (nI (x % (gN (zG z)))) = 3)]; decide)] at hQ46
                    subst e9
                    have hA46 := hA19.tr hQ46
                    have hW46 := hQ46.1
                    refine mx_istoreE (i := 10) (ls' := [some (.ref a), some (.int (nI x)), some (.int (nI (gP (zG z)))), some (.int (nI (gN (zG z)))), some (.int (nI ((xP (zG z) (vA (zX z)) i 0).1))), some (.int (oI (xP (zG z) (vA (zX z)) i 0).2)), some (.int (nI 1)), some (.int (nI (x % (gN (zG z))))), some (.int (nI (gF (zG z) (x % gN (zG z))))), some (.int (nI (gT (zG z) (x % gN (zG z))))), some (.int (-9999003)), none, none, none, none, none, none]) (hd := dL_holds_527) (hn := by decide) (hok := rfl) (hls := rfl) ?_
                    refine mx_iload (i := 10) (hl := rfl) (hd := dL_holds_529) ?_
                    refine mx_ldc (v := (-9999003)) k_675 dL_holds_531 ?_
                    refine mx_icmp_eq (tgt := 596) dL_holds_533 (by decide) (fun c533 => ?_) (fun c533 => ?_)
                    · skip
                      
                      refine mx_iconstN 1 dL_holds_596 (by decide) ?_
                      refine mx_goto (tgt := 601) dL_holds_597 (by decide) ?_
                      refine mx_istoreE (i := 6) (ls' := [some (.ref a), some (.int (nI x)), some (.int (nI (gP (zG z)))), some (.int (nI (gN (zG z)))), some (.int (nI ((xP (zG z) (vA (zX z)) i 0).1))), some (.int (oI (xP (zG z) (vA (zX z)) i 0).2)), some (.int (nI 1)), some (.int (nI (x % (gN (zG z))))), some (.int (nI (gF (zG z) (x % gN (zG z))))), some (.int (nI (gT (zG z) (x % gN (zG z))))), some (.int (-9999003)), none, none, none, none, none, none]) (hd := dL_holds_601) (hn := by decide) (hok := rfl) (hls := rfl) ?_
                      have hX4 : zX z = zX z := rfl
                      have hG4 : zG z = zG z := rfl
                      have hch : gCh (gK (zG z)) (x % 4) (x / 4 % 4) (gN (zG z)) < 2 ^ 31 := Nat.lt_of_le_of_lt (gCh_le9 _ _ _ _) (by omega)
                      refine mx_aload_n (i := 0) (hi := rfl) (hl := rfl) (hd := dL_holds_603) ?_
                      refine mx_bipushN 11 dL_holds_604 (by decide) ?_
                      refine mx_iload_n (i := 1) (hi := rfl) (hl := rfl) (hd := dL_holds_606) ?_
                      refine mx_iconstN 4 dL_holds_607 (by decide) ?_
                      refine mx_iremN dL_holds_608 (by omega) (by decide) ?_
                      refine mx_iload_n (i := 1) (hi := rfl) (hl := rfl) (hd := dL_holds_609) ?_
                      refine mx_iconstN 4 dL_holds_610 (by decide) ?_
                      refine mx_idivN dL_holds_611 (by omega) (by decide) ?_
                      refine mx_iconstN 4 dL_holds_612 (by decide) ?_
                      refine mx_iremN dL_holds_613 (by omega) (by decide) ?_
                      refine mx_iconstN 0 dL_holds_614 (by decide) ?_
                      refine mx_callS (bc := 0 + 15) (bs := 0 + 90) (As := [.ref a, .int (nI 11), .int (nI (x % 4)), .int (nI ((x / 4) % 4)), .int (nI 0)]) (rest := []) (b1 := 1) (b2 := 6) dL_holds_615 (lc_exchange G46 I46 a z hW46 (nI (x % 4)) (nI ((x / 4) % 4)) (nI 0)) km_L_call rfl k_664 k_665 rfl rfl (Nat.le_of_ble_eq_true rfl) (by decide) (fun _ _ _ q => q.elim) (fun r93 G47 I47 h94 => ?_)
                      obtain ⟨e9, hQ47⟩ := h94
                      rw [tv_0 (fl_sw0 _ _ hx4 hx5 : fl_exchange (nI (x % 4)) (nI ((x / 4) % 4)) = 0)] at e9
                      rw [show nI (gCh (gK (zG z)) (nI (x % 4)).toInt.toNat (nI ((x / 4) % 4)).toInt.toNat (gN (zG z))) = nI (gCh (gK (zG z)) (x % 4) (x / 4 % 4) (gN (zG z))) from by rw [nI_tt (by omega), nI_tt (by omega), hG4]] at e9
                      rw [tz_0 (fl_sw0 _ _ hx4 hx5 : fl_exchange (nI (x % 4)) (nI ((x / 4) % 4)) = 0)] at hQ47
                      subst e9
                      have hA47 := hA46.tr hQ47
                      have hW47 := hQ47.1
                      obtain ⟨z5, hz5⟩ : ∃ q, (nx_exchange z (nI (x % 4)).toInt.toNat (nI ((x / 4) % 4)).toInt.toNat) = q := ⟨_, rfl⟩
                      rw [hz5] at hQ47 hA47 hW47
                      refine mx_istoreE (i := 11) (ls' := [some (.ref a), some (.int (nI x)), some (.int (nI (gP (zG z)))), some (.int (nI (gN (zG z)))), some (.int (nI ((xP (zG z) (vA (zX z)) i 0).1))), some (.int (oI (xP (zG z) (vA (zX z)) i 0).2)), some (.int (nI 1)), some (.int (nI (x % (gN (zG z))))), some (.int (nI (gF (zG z) (x % gN (zG z))))), some (.int (nI (gT (zG z) (x % gN (zG z))))), some (.int (-9999003)), some (.int (nI (gCh (gK (zG z)) (x % 4) (x / 4 % 4) (gN (zG z))))), none, none, none, none, none]) (hd := dL_holds_618) (hn := by decide) (hok := rfl) (hls := rfl) ?_
                      refine mx_iload (i := 6) (hl := rfl) (hd := dL_holds_620) ?_
                      refine mx_if1_eq 673 dL_holds_622 (by decide) ?_
                      refine mx_aload_n (i := 0) (hi := rfl) (hl := rfl) (hd := dL_holds_625) ?_
                      refine mx_bipushN 11 dL_holds_626 (by decide) ?_
                      refine mx_iload_n (i := 1) (hi := rfl) (hl := rfl) (hd := dL_holds_628) ?_
                      refine mx_iconstN 4 dL_holds_629 (by decide) ?_
                      refine mx_idivN dL_holds_630 (by omega) (by decide) ?_
                      refine mx_iconstN 4 dL_holds_631 (by decide) ?_
                      refine mx_iremN dL_holds_632 (by omega) (by decide) ?_
                      refine mx_iload_n (i := 1) (hi := rfl) (hl := rfl) (hd := dL_holds_633) ?_
                      refine mx_iconstN 4 dL_holds_634 (by decide) ?_
                      refine mx_iremN dL_holds_635 (by omega) (by decide) ?_
                      refine mx_iconstN 0 dL_holds_636 (by decide) ?_
                      refine mx_callS (bc := 0 + 14) (bs := 0 + 84) (As := [.ref a, .int (nI 11), .int (nI ((x / 4) % 4)), .int (nI (x % 4)), .int (nI 0)]) (rest := []) (b1 := 1) (b2 := 6) dL_holds_637 (lc_exchange G47 I47 a z5 hW47 (nI ((x / 4) % 4)) (nI (x % 4)) (nI 0)) km_L_call rfl k_664 k_665 rfl rfl (Nat.le_of_ble_eq_true rfl) (by decide) (fun _ _ _ q => q.elim) (fun r95 G48 I48 h96 => ?_)
                      obtain ⟨e9, hQ48⟩ := h96
                      rw [tv_0 (fl_sw0 _ _ hx5 hx4 : fl_exchange (nI ((x / 4) % 4)) (nI (x % 4)) = 0)] at e9
                      rw [show nI (gCh (gK (zG z5)) (nI ((x / 4) % 4)).toInt.toNat (nI (x % 4)).toInt.toNat (gN (zG z5))) = nI (gCh (gK (zG z)) (x % 4) (x / 4 % 4) (gN (zG z))) from by rw [nI_tt (by omega), nI_tt (by omega), ← hz5, nI_tt (by omega), nI_tt (by omega), ← ch_2 (gK (zG z)) (x % 4) (x / 4 % 4), ← hG4]; rfl] at e9
                      rw [tz_0 (fl_sw0 _ _ hx5 hx4 : fl_exchange (nI ((x / 4) % 4)) (nI (x % 4)) = 0)] at hQ48
                      subst e9
                      have hA48 := hA47.tr hQ48
                      have hW48 := hQ48.1
                      obtain ⟨z6, hz6⟩ : ∃ q, (nx_exchange z5 (nI ((x / 4) % 4)).toInt.toNat (nI (x % 4)).toInt.toNat) = q := ⟨_, rfl⟩
                      rw [hz6] at hQ48 hA48 hW48
                      refine mx_iload (i := 11) (hl := rfl) (hd := dL_holds_640) ?_
                      refine mx_cmpN_ne 673 dL_holds_642 (by decide) (hch) (hch) (fun c642 => ?_) (fun c642 => ?_)
                      · skip
                        exact absurd rfl c642
                      · skip
                        have hu3 : fl_undo z6 = 0 := by rw [← hz6]; exact un_1 _ _
                        have hc6 : zC z6 - 1 < 2 ^ 31 := by have := hW48.2.2.2.1.1; omega
                        refine mx_aload_n (i := 0) (hi := rfl) (hl := rfl) (hd := dL_holds_645) ?_
                        refine mx_bipushN 13 dL_holds_646 (by decide) ?_
                        refine mx_iconstN 0 dL_holds_648 (by decide) ?_
                        refine mx_iconstN 0 dL_holds_649 (by decide) ?_
                        refine mx_iconstN 0 dL_holds_650 (by decide) ?_
                        refine mx_callS (bc := 0 + 13) (bs := 0 + 78) (As := [.ref a, .int (nI 13), .int (nI 0), .int (nI 0), .int (nI 0)]) (rest := []) (b1 := 1) (b2 := 6) dL_holds_651 (lc_undo G48 I48 a z6 hW48 (nI 0) (nI 0) (nI 0)) km_L_call rfl k_664 k_665 rfl rfl (Nat.le_of_ble_eq_true rfl) (by decide) (fun _ _ _ q => q.elim) (fun r97 G49 I49 h98 => ?_)
                        obtain ⟨e9, hQ49⟩ := h98
                        rw [tv_0 (hu3 : fl_undo z6 = 0)] at e9
                        rw [tz_0 (hu3 : fl_undo z6 = 0)] at hQ49
                        subst e9
                        have hA49 := hA48.tr hQ49
                        have hW49 := hQ49.1
                        obtain ⟨z7, hz7⟩ : ∃ q, (nx_undo z6) = q := ⟨_, rfl⟩
                        rw [hz7] at hQ49 hA49 hW49
                        refine mx_ifN_lt 673 dL_holds_654 (by decide) (hc6) (fun c654 => ?_) (fun c654 => ?_)
                        · skip
                          exact absurd c654 (Nat.not_lt_zero _)
                        · skip
                          have hu4 : fl_undo z7 = 0 := by rw [← hz7, ← hz6, ← hz5]; exact un_2 _ _ _
                          have hc7 : zC z7 - 1 < 2 ^ 31 := by have := hW49.2.2.2.1.1; omega
                          refine mx_aload_n (i := 0) (hi := rfl) (hl := rfl) (hd := dL_holds_657) ?_
                          refine mx_bipushN 13 dL_holds_658 (by decide) ?_
                          refine mx_iconstN 0 dL_holds_660 (by decide) ?_
                          refine mx_iconstN 0 dL_holds_661 (by decide) ?_
                          refine mx_iconstN 0 dL_holds_662 (by decide) ?_
                          refine mx_callS (bc := 0 + 12) (bs := 0 + 72) (As := [.ref a, .int (nI 13), .int (nI 0), .int (nI 0), .int (nI 0)]) (rest := []) (b1 := 1) (b2 := 6) dL_holds_663 (lc_undo G49 I49 a z7 hW49 (nI 0) (nI 0) (nI 0)) km_L_call rfl k_664 k_665 rfl rfl (Nat.le_of_ble_eq_true rfl) (by decide) (fun _ _ _ q => q.elim) (fun r99 G50 I50 h100 => ?_)
                          obtain ⟨e9, hQ50⟩ := h100
                          rw [tv_0 (hu4 : fl_undo z7 = 0)] at e9
                          rw [tz_0 (hu4 : fl_undo z7 = 0)] at hQ50
                          subst e9
                          have hA50 := hA49.tr hQ50
                          have hW50 := hQ50.1
                          obtain ⟨z8, hz8⟩ : ∃ q, (nx_undo z7) = q := ⟨_, rfl⟩
                          rw [hz8] at hQ50 hA50 hW50
                          refine mx_ifN_lt 673 dL_holds_666 (by decide) (hc7) (fun c666 => ?_) (fun c666 => ?_)
                          · skip
                            exact absurd c666 (Nat.not_lt_zero _)
                          · skip
                            refine mx_iconstN 1 dL_holds_669 (by decide) ?_
                            refine mx_goto (tgt := 674) dL_holds_670 (by decide) ?_
                            refine mx_istoreE (i := 6) (ls' := [some (.ref a), some (.int (nI x)), some (.int (nI (gP (zG z)))), some (.int (nI (gN (zG z)))), some (.int (nI ((xP (zG z) (vA (zX z)) i 0).1))), some (.int (oI (xP (zG z) (vA (zX z)) i 0).2)), some (.int (nI 1)), some (.int (nI (x % (gN (zG z))))), some (.int (nI (gF (zG z) (x % gN (zG z))))), some (.int (nI (gT (zG z) (x % gN (zG z))))), some (.int (-9999003)), some (.int (nI (gCh (gK (zG z)) (x % 4) (x / 4 % 4) (gN (zG z))))), none, none, none, none, none]) (hd := dL_holds_674) (hn := by decide) (hok := rfl) (hls := rfl) ?_
                            have hX8 : zX z8 = zX z := by rw [← hz8, ← hz7, ← hz6, ← hz5]; exact (un_X _ _ _).trans hX4
                            have hG8 : zG z8 = zG z := congrArg Prod.fst hX8
                            refine mx_iload (i := 6) (hl := rfl) (hd := dL_holds_676) ?_
                            refine mx_if1_eq 698 dL_holds_678 (by decide) ?_
                            refine mx_aload_n (i := 0) (hi := rfl) (hl := rfl) (hd := dL_holds_681) ?_
                            refine mx_iconstN 2 dL_holds_682 (by decide) ?_
                            refine mx_iconstN 5 dL_holds_683 (by decide) ?_
                            refine mx_iconstN 0 dL_holds_684 (by decide) ?_
                            refine mx_iconstN 0 dL_holds_685 (by decide) ?_
                            refine mx_callS (bc := 0 + 11) (bs := 0 + 66) (As := [.ref a, .int (nI 2), .int (nI 5), .int (nI 0), .int (nI 0)]) (rest := []) (b1 := 1) (b2 := 6) dL_holds_686 (lc_about G50 I50 a z8 hW50 (nI 5) (nI 0) (nI 0)) km_L_call rfl k_664 k_665 rfl rfl (Nat.le_of_ble_eq_true rfl) (by decide) (fun _ _ _ q => q.elim) (fun r101 G51 I51 h102 => ?_)
                            obtain ⟨e9, hQ51⟩ := h102
                            rw [tv_0 (by decide : fl_about (nI 5) = 0)] at e9
                            rw [show an_about z8 (nI 5).toInt.toNat = nI ((xP (zG z) (vA (zX z)) (gP (zG z)) 0).1) from by show nI (svP _ _ 0 _).1 = _; rw [hG8, hX8, hxs]] at e9
                            subst e9
                            have hA51 := hA50.tr hQ51
                            have hW51 := hQ51.1
                            refine mx_iload (i := 4) (hl := rfl) (hd := dL_holds_689) ?_
                            refine mx_top (y := nI ((xP (zG z) (vA (zX z)) (gP (zG z)) 0).1)) (by rw [eiP]) ?_
                            refine mx_cmpN_ne 698 dL_holds_691 (by decide) (hx1) (hx1) (fun c691 => ?_) (fun c691 => ?_)
                            · skip
                              exact absurd rfl c691
                            · skip
                              refine mx_iconstN 1 dL_holds_694 (by decide) ?_
                              refine mx_goto (tgt := 699) dL_holds_695 (by decide) ?_
                              exact mx_iret dL_holds_699 rfl (by decide) (⟨rfl, by unfold hoZ; rw [if_neg (by omega), if_neg (fun q => by rw [hT] at q; cases q), hz5, hz6, hz7, hz8]; exact hA51⟩)
                    · skip
                      exact absurd rfl c533
      · skip
        refine mx_iload (i := 6) (hl := rfl) (hd := dL_holds_37) ?_
        refine mx_if1_eq 425 dL_holds_39 (by decide) ?_
        have hiP : i < gP (zG z) := by omega
        refine mx_wk (bc' := 10 * (gP (zG z) - 0) + 82 * (gP (zG z) - (i + 1)) + 20 + 2) (bs' := 60 * (gP (zG z) - 0) + 492 * (gP (zG z) - (i + 1)) + 120 + 12) (by omega) (by omega) ?_
        refine mx_aload_n (i := 0) (hi := rfl) (hl := rfl) (hd := dL_holds_42) ?_
        refine mx_iconstN 4 dL_holds_43 (by decide) ?_
        refine mx_iload (i := 7) (hl := rfl) (hd := dL_holds_44) ?_
        refine mx_iconstN 2 dL_holds_46 (by decide) ?_
        refine mx_iconstN 0 dL_holds_47 (by decide) ?_
        refine mx_callS (bc := 10 * (gP (zG z) - 0) + 82 * (gP (zG z) - (i + 1)) + 20) (bs := 60 * (gP (zG z) - 0) + 492 * (gP (zG z) - (i + 1)) + 120) (As := [.ref a, .int (nI 4), .int (nI i), .int (nI 2), .int (nI 0)]) (rest := []) (b1 := 2) (b2 := 12) dL_holds_48 (lc_person G1 I1 a z hW1 (nI i) (nI 2) (nI 0)) km_L_call rfl k_664 k_665 rfl rfl (Nat.le_of_ble_eq_true rfl) (by decide) (fun _ _ _ q => q.elim) (fun r103 G52 I52 h104 => ?_)
        obtain ⟨e9, hQ52⟩ := h104
        rw [tv_0 (flp_0 hP8 hiP (by decide) : fl_person z (nI i) (nI 2) = 0)] at e9
        rw [show nI (an_person z (nI i).toInt.toNat (nI 2).toInt.toNat) = nI (an_person z i 2) from by rw [nI_tt (by omega), nI_tt (by decide)]] at e9
        subst e9
        have hA52 := hA1.tr hQ52
        have hW52 := hQ52.1
        refine mx_istoreE (i := 8) (ls' := [some (.ref a), some (.int (nI x)), some (.int (nI (gP (zG z)))), some (.int (nI (gN (zG z)))), some (.int (nI ((xP (zG z) (vA (zX z)) i 0).1))), some (.int (oI (xP (zG z) (vA (zX z)) i 0).2)), some (.int (nI 1)), some (.int (nI i)), some (.int (nI (an_person z i 2))), none, none, none, none, none, none, none, none]) (hd := dL_holds_51) (hn := by decide) (hok := rfl) (hls := rfl) ?_
        refine mx_iconstN 0 dL_holds_53 (by decide) ?_
        refine mx_istoreE (i := 9) (ls' := [some (.ref a), some (.int (nI x)), some (.int (nI (gP (zG z)))), some (.int (nI (gN (zG z)))), some (.int (nI ((xP (zG z) (vA (zX z)) i 0).1))), some (.int (oI (xP (zG z) (vA (zX z)) i 0).2)), some (.int (nI 1)), some (.int (nI i)), some (.int (nI (an_person z i 2))), some (.int (nI 0)), none, none, none, none, none, none, none]) (hd := dL_holds_54) (hn := by decide) (hok := rfl) (hls := rfl) ?_
        exact L56 _ 0 _ _ (Nat.lt_succ_self _) (Nat.zero_le _) hiP hA52
  refine mx_wk (bc' := 82 * (gP (zG z) - 0) + 20 + 2) (bs' := 492 * (gP (zG z) - 0) + 120 + 12) (by omega) (by omega) ?_
  refine mx_aload_n (i := 0) (hi := rfl) (hl := rfl) (hd := dL_holds_0) ?_
  refine mx_iconstN 2 dL_holds_1 (by decide) ?_
  refine mx_iconstN 0 dL_holds_2 (by decide) ?_
  refine mx_iconstN 0 dL_holds_3 (by decide) ?_
  refine mx_iconstN 0 dL_holds_4 (by decide) ?_
  refine mx_callS (bc := 82 * (gP (zG z) - 0) + 20 + 1) (bs := 492 * (gP (zG z) - 0) + 120 + 6) (As := [.ref a, .int (nI 2), .int (nI 0), .int (nI 0), .int (nI 0)]) (rest := []) (b1 := 1) (b2 := 6) dL_holds_5 (lc_about G I a z hW (nI 0) (nI 0) (nI 0)) km_L_call rfl k_664 k_665 rfl rfl (Nat.le_of_ble_eq_true rfl) (by decide) (fun _ _ _ q => q.elim) (fun r105 G53 I53 h106 => ?_)
  obtain ⟨e9, hQ53⟩ := h106
  rw [tv_0 (by decide : fl_about (nI 0) = 0)] at e9
  rw [show an_about z (nI 0).toInt.toNat = nI (gP (zG z)) from rfl] at e9
  subst e9
  have hA53 := hQ53
  have hW53 := hQ53.1
  refine mx_istoreE_n (i := 2) (ls' := [some (.ref a), some (.int (nI x)), some (.int (nI (gP (zG z)))), none, none, none, none, none, none, none, none, none, none, none, none, none, none]) (hi := rfl) (hd := dL_holds_8) (hn := by decide) (hok := rfl) (hls := rfl) ?_
  refine mx_aload_n (i := 0) (hi := rfl) (hl := rfl) (hd := dL_holds_9) ?_
  refine mx_iconstN 2 dL_holds_10 (by decide) ?_
  refine mx_iconstN 1 dL_holds_11 (by decide) ?_
  refine mx_iconstN 0 dL_holds_12 (by decide) ?_
  refine mx_iconstN 0 dL_holds_13 (by decide) ?_
  refine mx_callS (bc := 82 * (gP (zG z) - 0) + 20) (bs := 492 * (gP (zG z) - 0) + 120) (As := [.ref a, .int (nI 2), .int (nI 1), .int (nI 0), .int (nI 0)]) (rest := []) (b1 := 1) (b2 := 6) dL_holds_14 (lc_about G53 I53 a z hW53 (nI 1) (nI 0) (nI 0)) km_L_call rfl k_664 k_665 rfl rfl (Nat.le_of_ble_eq_true rfl) (by decide) (fun _ _ _ q => q.elim) (fun r107 G54 I54 h108 => ?_)
  obtain ⟨e9, hQ54⟩ := h108
  rw [tv_0 (by decide : fl_about (nI 1) = 0)] at e9
  rw [show an_about z (nI 1).toInt.toNat = nI (gN (zG z)) from rfl] at e9
  subst e9
  have hA54 := hA53.tr hQ54
  have hW54 := hQ54.1
  refine mx_istoreE_n (i := 3) (ls' := [some (.ref a), some (.int (nI x)), some (.int (nI (gP (zG z)))), some (.int (nI (gN (zG z)))), none, none, none, none, none, none, none, none, none, none, none, none, none]) (hi := rfl) (hd := dL_holds_17) (hn := by decide) (hok := rfl) (hls := rfl) ?_
  refine mx_iconstN 0 dL_holds_18 (by decide) ?_
  refine mx_top (y := nI ((xP (zG z) (vA (zX z)) 0 0).1)) (rfl) ?_
  refine mx_istoreE (i := 4) (ls' := [some (.ref a), some (.int (nI x)), some (.int (nI (gP (zG z)))), some (.int (nI (gN (zG z)))), some (.int (nI ((xP (zG z) (vA (zX z)) 0 0).1))), none, none, none, none, none, none, none, none, none, none, none, none]) (hd := dL_holds_19) (hn := by decide) (hok := rfl) (hls := rfl) ?_
  refine mx_bipush (v := (-9)) (by decide) dL_holds_21 ?_
  refine mx_top (y := oI (xP (zG z) (vA (zX z)) 0 0).2) (rfl) ?_
  refine mx_istoreE (i := 5) (ls' := [some (.ref a), some (.int (nI x)), some (.int (nI (gP (zG z)))), some (.int (nI (gN (zG z)))), some (.int (nI ((xP (zG z) (vA (zX z)) 0 0).1))), some (.int (oI (xP (zG z) (vA (zX z)) 0 0).2)), none, none, none, none, none, none, none, none, none, none, none]) (hd := dL_holds_23) (hn := by decide) (hok := rfl) (hls := rfl) ?_
  refine mx_iconstN 1 dL_holds_25 (by decide) ?_
  refine mx_istoreE (i := 6) (ls' := [some (.ref a), some (.int (nI x)), some (.int (nI (gP (zG z)))), some (.int (nI (gN (zG z)))), some (.int (nI ((xP (zG z) (vA (zX z)) 0 0).1))), some (.int (oI (xP (zG z) (vA (zX z)) 0 0).2)), some (.int (nI 1)), none, none, none, none, none, none, none, none, none, none]) (hd := dL_holds_26) (hn := by decide) (hok := rfl) (hls := rfl) ?_
  refine mx_iconstN 0 dL_holds_28 (by decide) ?_
  refine mx_istoreE (i := 7) (ls' := [some (.ref a), some (.int (nI x)), some (.int (nI (gP (zG z)))), some (.int (nI (gN (zG z)))), some (.int (nI ((xP (zG z) (vA (zX z)) 0 0).1))), some (.int (oI (xP (zG z) (vA (zX z)) 0 0).2)), some (.int (nI 1)), some (.int (nI 0)), none, none, none, none, none, none, none, none, none]) (hd := dL_holds_29) (hn := by decide) (hok := rfl) (hls := rfl) ?_
  exact L31 _ 0 _ _ (Nat.lt_succ_self _) (Nat.zero_le _) hA54
