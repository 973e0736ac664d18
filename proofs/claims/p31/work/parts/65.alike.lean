/-! THE LAW: alike -/
set_option maxHeartbeats 1000000 in
set_option maxRecDepth 100000 in
theorem lr_alike (G : mx_G) (I : mx_I) (a b : Nat) (z : Zs) (hWa : cW G I a z) (hWb : cW G I b z) (hab : a + 146 ≤ b) (x : Nat) (hx : x < 2 ^ 31) : mx_CT yL_alike mL_alike 11 216 1296 [.ref a, .ref b, .int (nI x)] G I (fun rv Gz Iz => rv = some (.int (nI 1)) ∧ cW Gz Iz a z ∧ cW Gz Iz b z) (fun _ _ _ => False) := by
  refine mx_start (k := 5) (by decide) rfl rfl (fun h => nomatch h) (Nat.le_of_ble_eq_true rfl) ?_
  show mx_V mL_alike mx_S0 11 216 1296 0 [some (.ref a), some (.ref b), some (.int (nI x)), none, none, none, none, none] [] G I (fun rv Gz Iz => rv = some (.int (nI 1)) ∧ cW Gz Iz a z ∧ cW Gz Iz b z) (fun _ _ _ => False)
  have tga0 : mx_tg G a = 19 := hWa.1.1.1
  have tgb0 : mx_tg G b = 19 := hWb.1.1.1
  have hP8 := hWa.P8
  have hN24 := hWa.N24
  have L153 : ∀ (fq : Nat) (i : Nat) (G1 : mx_G) (I1 : mx_I), gP (zG z) - i < fq → (i ≤ gP (zG z)) → (cW G1 I1 a z) → (cW G1 I1 b z) → mx_V mL_alike mx_S0 11 (12 * (gP (zG z) - i) + 6) (72 * (gP (zG z) - i) + 36) 153 [some (.ref a), some (.ref b), some (.int (nI x)), some (.int (nI 1)), some (.int (nI (gP (zG z)))), some (.int (nI (gN (zG z)))), some (.int (nI i)), none] [] G1 I1 (fun rv Gz Iz => rv = some (.int (nI 1)) ∧ cW Gz Iz a z ∧ cW Gz Iz b z) (fun _ _ _ => False) := by
    intro fq
    induction fq with
    | zero => intro i G1 I1 hfu; exact absurd hfu (Nat.not_lt_zero _)
    | succ fq ih =>
      intro i G1 I1 hfu hi hWa hWb
      have hP8 := hWa.P8
      have hN24 := hWa.N24
      refine mx_iload (i := 6) (hl := rfl) (hd := dL_alike_153) ?_
      refine mx_iload (i := 4) (hl := rfl) (hd := dL_alike_155) ?_
      refine mx_cmpN_ge 291 dL_alike_157 (by decide) (by omega) (by omega) (fun c157 => ?_) (fun c157 => ?_)
      · skip
        refine mx_wk (bc' := 0 + 6) (bs' := 0 + 36) (by omega) (by omega) ?_
        refine mx_iload_n (i := 3) (hi := rfl) (hl := rfl) (hd := dL_alike_291) ?_
        refine mx_if1_eq 386 dL_alike_292 (by decide) ?_
        refine mx_iload (i := 4) (hl := rfl) (hd := dL_alike_295) ?_
        refine mx_ifN_eq 382 dL_alike_297 (by decide) (by omega) (fun c297 => ?_) (fun c297 => ?_)
        · skip
          refine mx_iconstN 1 dL_alike_382 (by decide) ?_
          refine mx_goto (tgt := 387) dL_alike_383 (by decide) ?_
          exact mx_iret dL_alike_387 rfl (by decide) (⟨rfl, hWa, hWb⟩)
        · skip
          have hp0 : 0 < gP (zG z) := by omega
          refine mx_aload_n (i := 0) (hi := rfl) (hl := rfl) (hd := dL_alike_300) ?_
          refine mx_bipushN 17 dL_alike_301 (by decide) ?_
          refine mx_iload_n (i := 2) (hi := rfl) (hl := rfl) (hd := dL_alike_303) ?_
          refine mx_iload (i := 4) (hl := rfl) (hd := dL_alike_304) ?_
          refine mx_iremN dL_alike_306 (by omega) (by omega) ?_
          refine mx_iload_n (i := 2) (hi := rfl) (hl := rfl) (hd := dL_alike_307) ?_
          refine mx_bipushN 8 dL_alike_308 (by decide) ?_
          refine mx_idivN dL_alike_310 (by omega) (by decide) ?_
          refine mx_iload (i := 4) (hl := rfl) (hd := dL_alike_311) ?_
          refine mx_iremN dL_alike_313 (by omega) (by omega) ?_
          refine mx_iload_n (i := 2) (hi := rfl) (hl := rfl) (hd := dL_alike_314) ?_
          refine mx_iconstN 4 dL_alike_315 (by decide) ?_
          refine mx_iremN dL_alike_316 (by omega) (by decide) ?_
          refine mx_callS (bc := 0 + 4) (bs := 0 + 24) (As := [.ref a, .int (nI 17), .int (nI (x % (gP (zG z)))), .int (nI ((x / 8) % (gP (zG z)))), .int (nI (x % 4))]) (rest := []) (b1 := 2) (b2 := 12) dL_alike_317 (lc_paths G1 I1 a z hWa (nI (x % (gP (zG z)))) (nI ((x / 8) % (gP (zG z)))) (nI (x % 4))) km_L_call rfl k_664 k_665 rfl rfl (Nat.le_of_ble_eq_true rfl) (by decide) (fun _ _ _ q => q.elim) (fun r1 G1 I1 h2 => ?_)
          obtain ⟨e9, hQ1⟩ := h2
          subst e9
          have hWa1 := hQ1.1
          have hWb1 := hQ1.oth hWa.1.1 hWb (Or.inl hab)
          refine mx_aload_n (i := 1) (hi := rfl) (hl := rfl) (hd := dL_alike_320) ?_
          refine mx_bipushN 17 dL_alike_321 (by decide) ?_
          refine mx_iload_n (i := 2) (hi := rfl) (hl := rfl) (hd := dL_alike_323) ?_
          refine mx_iload (i := 4) (hl := rfl) (hd := dL_alike_324) ?_
          refine mx_iremN dL_alike_326 (by omega) (by omega) ?_
          refine mx_iload_n (i := 2) (hi := rfl) (hl := rfl) (hd := dL_alike_327) ?_
          refine mx_bipushN 8 dL_alike_328 (by decide) ?_
          refine mx_idivN dL_alike_330 (by omega) (by decide) ?_
          refine mx_iload (i := 4) (hl := rfl) (hd := dL_alike_331) ?_
          refine mx_iremN dL_alike_333 (by omega) (by omega) ?_
          refine mx_iload_n (i := 2) (hi := rfl) (hl := rfl) (hd := dL_alike_334) ?_
          refine mx_iconstN 4 dL_alike_335 (by decide) ?_
          refine mx_iremN dL_alike_336 (by omega) (by decide) ?_
          refine mx_callS (bc := 0 + 2) (bs := 0 + 12) (As := [.ref b, .int (nI 17), .int (nI (x % (gP (zG z)))), .int (nI ((x / 8) % (gP (zG z)))), .int (nI (x % 4))]) (rest := [.int (tv (fl_paths z (nI (x % (gP (zG z)))) (nI ((x / 8) % (gP (zG z)))) (nI (x % 4))) (nI (an_paths z (nI (x % (gP (zG z)))).toInt.toNat (nI ((x / 8) % (gP (zG z)))).toInt.toNat (nI (x % 4)).toInt.toNat)))]) (b1 := 2) (b2 := 12) dL_alike_337 (lc_paths G1 I1 b z hWb1 (nI (x % (gP (zG z)))) (nI ((x / 8) % (gP (zG z)))) (nI (x % 4))) km_L_call rfl k_664 k_665 rfl rfl (Nat.le_of_ble_eq_true rfl) (by decide) (fun _ _ _ q => q.elim) (fun r3 G2 I2 h4 => ?_)
          obtain ⟨e9, hQ2⟩ := h4
          subst e9
          have hWb2 := hQ2.1
          have hWa2 := hQ2.oth hWb1.1.1 hWa1 (Or.inr hab)
          refine mx_icmp_ne (tgt := 386) dL_alike_340 (by decide) (fun c340 => ?_) (fun c340 => ?_)
          · skip
            exact absurd rfl c340
          · skip
            refine mx_aload_n (i := 0) (hi := rfl) (hl := rfl) (hd := dL_alike_343) ?_
            refine mx_bipushN 18 dL_alike_344 (by decide) ?_
            refine mx_iload_n (i := 2) (hi := rfl) (hl := rfl) (hd := dL_alike_346) ?_
            refine mx_iload (i := 4) (hl := rfl) (hd := dL_alike_347) ?_
            refine mx_iremN dL_alike_349 (by omega) (by omega) ?_
            refine mx_iload_n (i := 2) (hi := rfl) (hl := rfl) (hd := dL_alike_350) ?_
            refine mx_bipushN 8 dL_alike_351 (by decide) ?_
            refine mx_idivN dL_alike_353 (by omega) (by decide) ?_
            refine mx_iload (i := 4) (hl := rfl) (hd := dL_alike_354) ?_
            refine mx_iremN dL_alike_356 (by omega) (by omega) ?_
            refine mx_iconstN 0 dL_alike_357 (by decide) ?_
            refine mx_callS (bc := 0 + 1) (bs := 0 + 6) (As := [.ref a, .int (nI 18), .int (nI (x % (gP (zG z)))), .int (nI ((x / 8) % (gP (zG z)))), .int (nI 0)]) (rest := []) (b1 := 1) (b2 := 6) dL_alike_358 (lc_needed G2 I2 a z hWa2 (nI (x % (gP (zG z)))) (nI ((x / 8) % (gP (zG z)))) (nI 0)) km_L_call rfl k_664 k_665 rfl rfl (Nat.le_of_ble_eq_true rfl) (by decide) (fun _ _ _ q => q.elim) (fun r5 G3 I3 h6 => ?_)
            obtain ⟨e9, hQ3⟩ := h6
            subst e9
            have hWa3 := hQ3.1
            have hWb3 := hQ3.oth hWa2.1.1 hWb2 (Or.inl hab)
            refine mx_aload_n (i := 1) (hi := rfl) (hl := rfl) (hd := dL_alike_361) ?_
            refine mx_bipushN 18 dL_alike_362 (by decide) ?_
            refine mx_iload_n (i := 2) (hi := rfl) (hl := rfl) (hd := dL_alike_364) ?_
            refine mx_iload (i := 4) (hl := rfl) (hd := dL_alike_365) ?_
            refine mx_iremN dL_alike_367 (by omega) (by omega) ?_
            refine mx_iload_n (i := 2) (hi := rfl) (hl := rfl) (hd := dL_alike_368) ?_
            refine mx_bipushN 8 dL_alike_369 (by decide) ?_
            refine mx_idivN dL_alike_371 (by omega) (by decide) ?_
            refine mx_iload (i := 4) (hl := rfl) (hd := dL_alike_372) ?_
            refine mx_iremN dL_alike_374 (by omega) (by omega) ?_
            refine mx_iconstN 0 dL_alike_375 (by decide) ?_
            refine mx_callS (bc := 0) (bs := 0) (As := [.ref b, .int (nI 18), .int (nI (x % (gP (zG z)))), .int (nI ((x / 8) % (gP (zG z)))), .int (nI 0)]) (rest := [.int (tv (fl_two z (nI (x % (gP (zG z)))) (nI ((x / 8) % (gP (zG z))))) (nI (an_needed z (nI (x % (gP (zG z)))).toInt.toNat (nI ((x / 8) % (gP (zG z)))).toInt.toNat)))]) (b1 := 1) (b2 := 6) dL_alike_376 (lc_needed G3 I3 b z hWb3 (nI (x % (gP (zG z)))) (nI ((x / 8) % (gP (zG z)))) (nI 0)) km_L_call rfl k_664 k_665 rfl rfl (Nat.le_of_ble_eq_true rfl) (by decide) (fun _ _ _ q => q.elim) (fun r7 G4 I4 h8 => ?_)
            obtain ⟨e9, hQ4⟩ := h8
            subst e9
            have hWb4 := hQ4.1
            have hWa4 := hQ4.oth hWb3.1.1 hWa3 (Or.inr hab)
            refine mx_icmp_ne (tgt := 386) dL_alike_379 (by decide) (fun c379 => ?_) (fun c379 => ?_)
            · skip
              exact absurd rfl c379
            · skip
              refine mx_iconstN 1 dL_alike_382 (by decide) ?_
              refine mx_goto (tgt := 387) dL_alike_383 (by decide) ?_
              exact mx_iret dL_alike_387 rfl (by decide) (⟨rfl, hWa4, hWb4⟩)
      · skip
        refine mx_iload_n (i := 3) (hi := rfl) (hl := rfl) (hd := dL_alike_160) ?_
        refine mx_if1_eq 291 dL_alike_161 (by decide) ?_
        refine mx_wk (bc' := 12 * (gP (zG z) - (i + 1)) + 6 + 12) (bs' := 72 * (gP (zG z) - (i + 1)) + 36 + 72) (by omega) (by omega) ?_
        refine mx_iload (i := 6) (hl := rfl) (hd := dL_alike_164) ?_
        refine mx_iload_n (i := 2) (hi := rfl) (hl := rfl) (hd := dL_alike_166) ?_
        refine mx_iconstN 4 dL_alike_167 (by decide) ?_
        refine mx_idivN dL_alike_168 (by omega) (by decide) ?_
        refine mx_iaddN dL_alike_169 ?_
        refine mx_iload (i := 4) (hl := rfl) (hd := dL_alike_170) ?_
        refine mx_iremN dL_alike_172 (by omega) (by omega) ?_
        refine mx_istoreE (i := 7) (ls' := [some (.ref a), some (.ref b), some (.int (nI x)), some (.int (nI 1)), some (.int (nI (gP (zG z)))), some (.int (nI (gN (zG z)))), some (.int (nI i)), some (.int (nI ((i + (x / 4)) % (gP (zG z)))))]) (hd := dL_alike_173) (hn := by decide) (hok := rfl) (hls := rfl) ?_
        refine mx_aload_n (i := 0) (hi := rfl) (hl := rfl) (hd := dL_alike_175) ?_
        refine mx_bipushN 14 dL_alike_176 (by decide) ?_
        refine mx_iload (i := 6) (hl := rfl) (hd := dL_alike_178) ?_
        refine mx_iload (i := 7) (hl := rfl) (hd := dL_alike_180) ?_
        refine mx_iconstN 0 dL_alike_182 (by decide) ?_
        refine mx_callS (bc := 12 * (gP (zG z) - (i + 1)) + 6 + 11) (bs := 72 * (gP (zG z) - (i + 1)) + 36 + 66) (As := [.ref a, .int (nI 14), .int (nI i), .int (nI ((i + (x / 4)) % (gP (zG z)))), .int (nI 0)]) (rest := []) (b1 := 1) (b2 := 6) dL_alike_183 (lc_cost G1 I1 a z hWa (nI i) (nI ((i + (x / 4)) % (gP (zG z)))) (nI 0)) km_L_call rfl k_664 k_665 rfl rfl (Nat.le_of_ble_eq_true rfl) (by decide) (fun _ _ _ q => q.elim) (fun r9 G5 I5 h10 => ?_)
        obtain ⟨e9, hQ5⟩ := h10
        subst e9
        have hWa5 := hQ5.1
        have hWb5 := hQ5.oth hWa.1.1 hWb (Or.inl hab)
        refine mx_aload_n (i := 1) (hi := rfl) (hl := rfl) (hd := dL_alike_186) ?_
        refine mx_bipushN 14 dL_alike_187 (by decide) ?_
        refine mx_iload (i := 6) (hl := rfl) (hd := dL_alike_189) ?_
        refine mx_iload (i := 7) (hl := rfl) (hd := dL_alike_191) ?_
        refine mx_iconstN 0 dL_alike_193 (by decide) ?_
        refine mx_callS (bc := 12 * (gP (zG z) - (i + 1)) + 6 + 10) (bs := 72 * (gP (zG z) - (i + 1)) + 36 + 60) (As := [.ref b, .int (nI 14), .int (nI i), .int (nI ((i + (x / 4)) % (gP (zG z)))), .int (nI 0)]) (rest := [.int (tv (fl_two z (nI i) (nI ((i + (x / 4)) % (gP (zG z))))) (oI (an_cost z (nI i).toInt.toNat (nI ((i + (x / 4)) % (gP (zG z)))).toInt.toNat)))]) (b1 := 1) (b2 := 6) dL_alike_194 (lc_cost G5 I5 b z hWb5 (nI i) (nI ((i + (x / 4)) % (gP (zG z)))) (nI 0)) km_L_call rfl k_664 k_665 rfl rfl (Nat.le_of_ble_eq_true rfl) (by decide) (fun _ _ _ q => q.elim) (fun r11 G6 I6 h12 => ?_)
        obtain ⟨e9, hQ6⟩ := h12
        subst e9
        have hWb6 := hQ6.1
        have hWa6 := hQ6.oth hWb5.1.1 hWa5 (Or.inr hab)
        refine mx_icmp_ne (tgt := 283) dL_alike_197 (by decide) (fun c197 => ?_) (fun c197 => ?_)
        · skip
          exact absurd rfl c197
        · skip
          refine mx_aload_n (i := 0) (hi := rfl) (hl := rfl) (hd := dL_alike_200) ?_
          refine mx_bipushN 15 dL_alike_201 (by decide) ?_
          refine mx_iload (i := 6) (hl := rfl) (hd := dL_alike_203) ?_
          refine mx_iload (i := 7) (hl := rfl) (hd := dL_alike_205) ?_
          refine mx_iconstN 0 dL_alike_207 (by decide) ?_
          refine mx_callS (bc := 12 * (gP (zG z) - (i + 1)) + 6 + 9) (bs := 72 * (gP (zG z) - (i + 1)) + 36 + 54) (As := [.ref a, .int (nI 15), .int (nI i), .int (nI ((i + (x / 4)) % (gP (zG z)))), .int (nI 0)]) (rest := []) (b1 := 1) (b2 := 6) dL_alike_208 (lc_length G6 I6 a z hWa6 (nI i) (nI ((i + (x / 4)) % (gP (zG z)))) (nI 0)) km_L_call rfl k_664 k_665 rfl rfl (Nat.le_of_ble_eq_true rfl) (by decide) (fun _ _ _ q => q.elim) (fun r13 G7 I7 h14 => ?_)
          obtain ⟨e9, hQ7⟩ := h14
          subst e9
          have hWa7 := hQ7.1
          have hWb7 := hQ7.oth hWa6.1.1 hWb6 (Or.inl hab)
          refine mx_aload_n (i := 1) (hi := rfl) (hl := rfl) (hd := dL_alike_211) ?_
          refine mx_bipushN 15 dL_alike_212 (by decide) ?_
          refine mx_iload (i := 6) (hl := rfl) (hd := dL_alike_214) ?_
          refine mx_iload (i := 7) (hl := rfl) (hd := dL_alike_216) ?_
          refine mx_iconstN 0 dL_alike_218 (by decide) ?_
          refine mx_callS (bc := 12 * (gP (zG z) - (i + 1)) + 6 + 8) (bs := 72 * (gP (zG z) - (i + 1)) + 36 + 48) (As := [.ref b, .int (nI 15), .int (nI i), .int (nI ((i + (x / 4)) % (gP (zG z)))), .int (nI 0)]) (rest := [.int (tv (fl_two z (nI i) (nI ((i + (x / 4)) % (gP (zG z))))) (oI (an_length z (nI i).toInt.toNat (nI ((i + (x / 4)) % (gP (zG z)))).toInt.toNat)))]) (b1 := 1) (b2 := 6) dL_alike_219 (lc_length G7 I7 b z hWb7 (nI i) (nI ((i + (x / 4)) % (gP (zG z)))) (nI 0)) km_L_call rfl k_664 k_665 rfl rfl (Nat.le_of_ble_eq_true rfl) (by decide) (fun _ _ _ q => q.elim) (fun r15 G8 I8 h16 => ?_)
          obtain ⟨e9, hQ8⟩ := h16
          subst e9
          have hWb8 := hQ8.1
          have hWa8 := hQ8.oth hWb7.1.1 hWa7 (Or.inr hab)
          refine mx_icmp_ne (tgt := 283) dL_alike_222 (by decide) (fun c222 => ?_) (fun c222 => ?_)
          · skip
            exact absurd rfl c222
          · skip
            refine mx_aload_n (i := 0) (hi := rfl) (hl := rfl) (hd := dL_alike_225) ?_
            refine mx_bipushN 16 dL_alike_226 (by decide) ?_
            refine mx_iload (i := 6) (hl := rfl) (hd := dL_alike_228) ?_
            refine mx_iload (i := 7) (hl := rfl) (hd := dL_alike_230) ?_
            refine mx_iload_n (i := 2) (hi := rfl) (hl := rfl) (hd := dL_alike_232) ?_
            refine mx_iconstN 3 dL_alike_233 (by decide) ?_
            refine mx_iremN dL_alike_234 (by omega) (by decide) ?_
            refine mx_callS (bc := 12 * (gP (zG z) - (i + 1)) + 6 + 6) (bs := 72 * (gP (zG z) - (i + 1)) + 36 + 36) (As := [.ref a, .int (nI 16), .int (nI i), .int (nI ((i + (x / 4)) % (gP (zG z)))), .int (nI (x % 3))]) (rest := []) (b1 := 2) (b2 := 12) dL_alike_235 (lc_pathAt G8 I8 a z hWa8 (nI i) (nI ((i + (x / 4)) % (gP (zG z)))) (nI (x % 3))) km_L_call rfl k_664 k_665 rfl rfl (Nat.le_of_ble_eq_true rfl) (by decide) (fun _ _ _ q => q.elim) (fun r17 G9 I9 h18 => ?_)
            obtain ⟨e9, hQ9⟩ := h18
            subst e9
            have hWa9 := hQ9.1
            have hWb9 := hQ9.oth hWa8.1.1 hWb8 (Or.inl hab)
            refine mx_aload_n (i := 1) (hi := rfl) (hl := rfl) (hd := dL_alike_238) ?_
            refine mx_bipushN 16 dL_alike_239 (by decide) ?_
            refine mx_iload (i := 6) (hl := rfl) (hd := dL_alike_241) ?_
            refine mx_iload (i := 7) (hl := rfl) (hd := dL_alike_243) ?_
            refine mx_iload_n (i := 2) (hi := rfl) (hl := rfl) (hd := dL_alike_245) ?_
            refine mx_iconstN 3 dL_alike_246 (by decide) ?_
            refine mx_iremN dL_alike_247 (by omega) (by decide) ?_
            refine mx_callS (bc := 12 * (gP (zG z) - (i + 1)) + 6 + 4) (bs := 72 * (gP (zG z) - (i + 1)) + 36 + 24) (As := [.ref b, .int (nI 16), .int (nI i), .int (nI ((i + (x / 4)) % (gP (zG z)))), .int (nI (x % 3))]) (rest := [.int (tv (fl_pathAt z (nI i) (nI ((i + (x / 4)) % (gP (zG z)))) (nI (x % 3))) (oI (an_pathAt z (nI i).toInt.toNat (nI ((i + (x / 4)) % (gP (zG z)))).toInt.toNat (nI (x % 3)).toInt.toNat)))]) (b1 := 2) (b2 := 12) dL_alike_248 (lc_pathAt G9 I9 b z hWb9 (nI i) (nI ((i + (x / 4)) % (gP (zG z)))) (nI (x % 3))) km_L_call rfl k_664 k_665 rfl rfl (Nat.le_of_ble_eq_true rfl) (by decide) (fun _ _ _ q => q.elim) (fun r19 G10 I10 h20 => ?_)
            obtain ⟨e9, hQ10⟩ := h20
            subst e9
            have hWb10 := hQ10.1
            have hWa10 := hQ10.oth hWb9.1.1 hWa9 (Or.inr hab)
            refine mx_icmp_ne (tgt := 283) dL_alike_251 (by decide) (fun c251 => ?_) (fun c251 => ?_)
            · skip
              exact absurd rfl c251
            · skip
              refine mx_aload_n (i := 0) (hi := rfl) (hl := rfl) (hd := dL_alike_254) ?_
              refine mx_iconstN 4 dL_alike_255 (by decide) ?_
              refine mx_iload (i := 6) (hl := rfl) (hd := dL_alike_256) ?_
              refine mx_iload_n (i := 2) (hi := rfl) (hl := rfl) (hd := dL_alike_258) ?_
              refine mx_iconstN 4 dL_alike_259 (by decide) ?_
              refine mx_iremN dL_alike_260 (by omega) (by decide) ?_
              refine mx_iconstN 0 dL_alike_261 (by decide) ?_
              refine mx_callS (bc := 12 * (gP (zG z) - (i + 1)) + 6 + 2) (bs := 72 * (gP (zG z) - (i + 1)) + 36 + 12) (As := [.ref a, .int (nI 4), .int (nI i), .int (nI (x % 4)), .int (nI 0)]) (rest := []) (b1 := 2) (b2 := 12) dL_alike_262 (lc_person G10 I10 a z hWa10 (nI i) (nI (x % 4)) (nI 0)) km_L_call rfl k_664 k_665 rfl rfl (Nat.le_of_ble_eq_true rfl) (by decide) (fun _ _ _ q => q.elim) (fun r21 G11 I11 h22 => ?_)
              obtain ⟨e9, hQ11⟩ := h22
              subst e9
              have hWa11 := hQ11.1
              have hWb11 := hQ11.oth hWa10.1.1 hWb10 (Or.inl hab)
              refine mx_aload_n (i := 1) (hi := rfl) (hl := rfl) (hd := dL_alike_265) ?_
              refine mx_iconstN 4 dL_alike_266 (by decide) ?_
              refine mx_iload (i := 6) (hl := rfl) (hd := dL_alike_267) ?_
              refine mx_iload_n (i := 2) (hi := rfl) (hl := rfl) (hd := dL_alike_269) ?_
              refine mx_iconstN 4 dL_alike_270 (by decide) ?_
              refine mx_iremN dL_alike_271 (by omega) (by decide) ?_
              refine mx_iconstN 0 dL_alike_272 (by decide) ?_
              refine mx_callS (bc := 12 * (gP (zG z) - (i + 1)) + 6) (bs := 72 * (gP (zG z) - (i + 1)) + 36) (As := [.ref b, .int (nI 4), .int (nI i), .int (nI (x % 4)), .int (nI 0)]) (rest := [.int (tv (fl_person z (nI i) (nI (x % 4))) (nI (an_person z (nI i).toInt.toNat (nI (x % 4)).toInt.toNat)))]) (b1 := 2) (b2 := 12) dL_alike_273 (lc_person G11 I11 b z hWb11 (nI i) (nI (x % 4)) (nI 0)) km_L_call rfl k_664 k_665 rfl rfl (Nat.le_of_ble_eq_true rfl) (by decide) (fun _ _ _ q => q.elim) (fun r23 G12 I12 h24 => ?_)
              obtain ⟨e9, hQ12⟩ := h24
              subst e9
              have hWb12 := hQ12.1
              have hWa12 := hQ12.oth hWb11.1.1 hWa11 (Or.inr hab)
              refine mx_icmp_ne (tgt := 283) dL_alike_276 (by decide) (fun c276 => ?_) (fun c276 => ?_)
              · skip
                exact absurd rfl c276
              · skip
                refine mx_iconstN 1 dL_alike_279 (by decide) ?_
                refine mx_goto (tgt := 284) dL_alike_280 (by decide) ?_
                refine mx_istoreE_n (i := 3) (ls' := [some (.ref a), some (.ref b), some (.int (nI x)), some (.int (nI 1)), some (.int (nI (gP (zG z)))), some (.int (nI (gN (zG z)))), some (.int (nI i)), some (.int (nI ((i + (x / 4)) % (gP (zG z)))))]) (hi := rfl) (hd := dL_alike_284) (hn := by decide) (hok := rfl) (hls := rfl) ?_
                refine mx_iincE (i := 6) (ls' := [some (.ref a), some (.ref b), some (.int (nI x)), some (.int (nI 1)), some (.int (nI (gP (zG z)))), some (.int (nI (gN (zG z)))), some (.int (nI (i + 1))), some (.int (nI ((i + (x / 4)) % (gP (zG z)))))]) 1 dL_alike_285 rfl (by decide) (by decide) rfl rfl ?_
                refine mx_goto (tgt := 153) dL_alike_288 (by decide) ?_
                refine mx_leS (ls' := [some (.ref a), some (.ref b), some (.int (nI x)), some (.int (nI 1)), some (.int (nI (gP (zG z)))), some (.int (nI (gN (zG z)))), some (.int (nI (i + 1))), none]) ⟨rfl, rfl, rfl, rfl, rfl, rfl, rfl, trivial⟩ ?_
                exact ih (i + 1) _ _ (by omega) (by omega) hWa12 hWb12
  have L102 : ∀ (fq : Nat) (i : Nat) (G1 : mx_G) (I1 : mx_I), gN (zG z) - i < fq → (i ≤ gN (zG z)) → (cW G1 I1 a z) → (cW G1 I1 b z) → mx_V mL_alike mx_S0 11 (4 * (gN (zG z) - i) + 102) (24 * (gN (zG z) - i) + 612) 102 [some (.ref a), some (.ref b), some (.int (nI x)), some (.int (nI 1)), some (.int (nI (gP (zG z)))), some (.int (nI (gN (zG z)))), some (.int (nI i)), none] [] G1 I1 (fun rv Gz Iz => rv = some (.int (nI 1)) ∧ cW Gz Iz a z ∧ cW Gz Iz b z) (fun _ _ _ => False) := by
    intro fq
    induction fq with
    | zero => intro i G1 I1 hfu; exact absurd hfu (Nat.not_lt_zero _)
    | succ fq ih =>
      intro i G1 I1 hfu hi hWa hWb
      have hP8 := hWa.P8
      have hN24 := hWa.N24
      refine mx_iload (i := 6) (hl := rfl) (hd := dL_alike_102) ?_
      refine mx_iload (i := 5) (hl := rfl) (hd := dL_alike_104) ?_
      refine mx_cmpN_ge 150 dL_alike_106 (by decide) (by omega) (by omega) (fun c106 => ?_) (fun c106 => ?_)
      · skip
        refine mx_wk (bc' := 12 * (gP (zG z) - 0) + 6) (bs' := 72 * (gP (zG z) - 0) + 36) (by omega) (by omega) ?_
        refine mx_iconstN 0 dL_alike_150 (by decide) ?_
        refine mx_istoreE (i := 6) (ls' := [some (.ref a), some (.ref b), some (.int (nI x)), some (.int (nI 1)), some (.int (nI (gP (zG z)))), some (.int (nI (gN (zG z)))), some (.int (nI 0)), none]) (hd := dL_alike_151) (hn := by decide) (hok := rfl) (hls := rfl) ?_
        exact L153 _ 0 _ _ (Nat.lt_succ_self _) (Nat.zero_le _) hWa hWb
      · skip
        refine mx_iload_n (i := 3) (hi := rfl) (hl := rfl) (hd := dL_alike_109) ?_
        refine mx_if1_eq 150 dL_alike_110 (by decide) ?_
        refine mx_wk (bc' := 4 * (gN (zG z) - (i + 1)) + 102 + 4) (bs' := 24 * (gN (zG z) - (i + 1)) + 612 + 24) (by omega) (by omega) ?_
        refine mx_aload_n (i := 0) (hi := rfl) (hl := rfl) (hd := dL_alike_113) ?_
        refine mx_iconstN 3 dL_alike_114 (by decide) ?_
        refine mx_iload (i := 6) (hl := rfl) (hd := dL_alike_115) ?_
        refine mx_iload_n (i := 2) (hi := rfl) (hl := rfl) (hd := dL_alike_117) ?_
        refine mx_iconstN 4 dL_alike_118 (by decide) ?_
        refine mx_iremN dL_alike_119 (by omega) (by decide) ?_
        refine mx_iconstN 0 dL_alike_120 (by decide) ?_
        refine mx_callS (bc := 4 * (gN (zG z) - (i + 1)) + 102 + 2) (bs := 24 * (gN (zG z) - (i + 1)) + 612 + 12) (As := [.ref a, .int (nI 3), .int (nI i), .int (nI (x % 4)), .int (nI 0)]) (rest := []) (b1 := 2) (b2 := 12) dL_alike_121 (lc_step G1 I1 a z hWa (nI i) (nI (x % 4)) (nI 0)) km_L_call rfl k_664 k_665 rfl rfl (Nat.le_of_ble_eq_true rfl) (by decide) (fun _ _ _ q => q.elim) (fun r25 G13 I13 h26 => ?_)
        obtain ⟨e9, hQ13⟩ := h26
        subst e9
        have hWa13 := hQ13.1
        have hWb13 := hQ13.oth hWa.1.1 hWb (Or.inl hab)
        refine mx_aload_n (i := 1) (hi := rfl) (hl := rfl) (hd := dL_alike_124) ?_
        refine mx_iconstN 3 dL_alike_125 (by decide) ?_
        refine mx_iload (i := 6) (hl := rfl) (hd := dL_alike_126) ?_
        refine mx_iload_n (i := 2) (hi := rfl) (hl := rfl) (hd := dL_alike_128) ?_
        refine mx_iconstN 4 dL_alike_129 (by decide) ?_
        refine mx_iremN dL_alike_130 (by omega) (by decide) ?_
        refine mx_iconstN 0 dL_alike_131 (by decide) ?_
        refine mx_callS (bc := 4 * (gN (zG z) - (i + 1)) + 102) (bs := 24 * (gN (zG z) - (i + 1)) + 612) (As := [.ref b, .int (nI 3), .int (nI i), .int (nI (x % 4)), .int (nI 0)]) (rest := [.int (tv (fl_step z (nI i) (nI (x % 4))) (nI (an_step z (nI i).toInt.toNat (nI (x % 4)).toInt.toNat)))]) (b1 := 2) (b2 := 12) dL_alike_132 (lc_step G13 I13 b z hWb13 (nI i) (nI (x % 4)) (nI 0)) km_L_call rfl k_664 k_665 rfl rfl (Nat.le_of_ble_eq_true rfl) (by decide) (fun _ _ _ q => q.elim) (fun r27 G14 I14 h28 => ?_)
        obtain ⟨e9, hQ14⟩ := h28
        subst e9
        have hWb14 := hQ14.1
        have hWa14 := hQ14.oth hWb13.1.1 hWa13 (Or.inr hab)
        refine mx_icmp_ne (tgt := 142) dL_alike_135 (by decide) (fun c135 => ?_) (fun c135 => ?_)
        · skip
          exact absurd rfl c135
        · skip
          refine mx_iconstN 1 dL_alike_138 (by decide) ?_
          refine mx_goto (tgt := 143) dL_alike_139 (by decide) ?_
          refine mx_istoreE_n (i := 3) (ls' := [some (.ref a), some (.ref b), some (.int (nI x)), some (.int (nI 1)), some (.int (nI (gP (zG z)))), some (.int (nI (gN (zG z)))), some (.int (nI i)), none]) (hi := rfl) (hd := dL_alike_143) (hn := by decide) (hok := rfl) (hls := rfl) ?_
          refine mx_iincE (i := 6) (ls' := [some (.ref a), some (.ref b), some (.int (nI x)), some (.int (nI 1)), some (.int (nI (gP (zG z)))), some (.int (nI (gN (zG z)))), some (.int (nI (i + 1))), none]) 1 dL_alike_144 rfl (by decide) (by decide) rfl rfl ?_
          refine mx_goto (tgt := 102) dL_alike_147 (by decide) ?_
          exact ih (i + 1) _ _ (by omega) (by omega) hWa14 hWb14
  have L35 : ∀ (fq : Nat) (i : Nat) (G1 : mx_G) (I1 : mx_I), 8 - i < fq → (i ≤ 8) → (cW G1 I1 a z) → (cW G1 I1 b z) → mx_V mL_alike mx_S0 11 (2 * (8 - i) + 200) (12 * (8 - i) + 1200) 35 [some (.ref a), some (.ref b), some (.int (nI x)), some (.int (nI 1)), some (.int (nI i)), none, none, none] [] G1 I1 (fun rv Gz Iz => rv = some (.int (nI 1)) ∧ cW Gz Iz a z ∧ cW Gz Iz b z) (fun _ _ _ => False) := by
    intro fq
    induction fq with
    | zero => intro i G1 I1 hfu; exact absurd hfu (Nat.not_lt_zero _)
    | succ fq ih =>
      intro i G1 I1 hfu hi hWa hWb
      have hP8 := hWa.P8
      have hN24 := hWa.N24
      refine mx_iload (i := 4) (hl := rfl) (hd := dL_alike_35) ?_
      refine mx_bipushN 8 dL_alike_37 (by decide) ?_
      refine mx_cmpN_ge 79 dL_alike_39 (by decide) (by omega) (by omega) (fun c39 => ?_) (fun c39 => ?_)
      · skip
        refine mx_wk (bc' := 4 * (gN (zG z) - 0) + 102 + 2) (bs' := 24 * (gN (zG z) - 0) + 612 + 12) (by omega) (by omega) ?_
        refine mx_aload_n (i := 0) (hi := rfl) (hl := rfl) (hd := dL_alike_79) ?_
        refine mx_iconstN 2 dL_alike_80 (by decide) ?_
        refine mx_iconstN 0 dL_alike_81 (by decide) ?_
        refine mx_iconstN 0 dL_alike_82 (by decide) ?_
        refine mx_iconstN 0 dL_alike_83 (by decide) ?_
        refine mx_callS (bc := 4 * (gN (zG z) - 0) + 102 + 1) (bs := 24 * (gN (zG z) - 0) + 612 + 6) (As := [.ref a, .int (nI 2), .int (nI 0), .int (nI 0), .int (nI 0)]) (rest := []) (b1 := 1) (b2 := 6) dL_alike_84 (lc_about G1 I1 a z hWa (nI 0) (nI 0) (nI 0)) km_L_call rfl k_664 k_665 rfl rfl (Nat.le_of_ble_eq_true rfl) (by decide) (fun _ _ _ q => q.elim) (fun r29 G15 I15 h30 => ?_)
        obtain ⟨e9, hQ15⟩ := h30
        rw [tv_0 (by decide : fl_about (nI 0) = 0), show an_about z (nI 0).toInt.toNat = nI (gP (zG z)) from rfl] at e9
        subst e9
        have hWa15 := hQ15.1
        have hWb15 := hQ15.oth hWa.1.1 hWb (Or.inl hab)
        refine mx_istoreE (i := 4) (ls' := [some (.ref a), some (.ref b), some (.int (nI x)), some (.int (nI 1)), some (.int (nI (gP (zG z)))), none, none, none]) (hd := dL_alike_87) (hn := by decide) (hok := rfl) (hls := rfl) ?_
        refine mx_aload_n (i := 0) (hi := rfl) (hl := rfl) (hd := dL_alike_89) ?_
        refine mx_iconstN 2 dL_alike_90 (by decide) ?_
        refine mx_iconstN 1 dL_alike_91 (by decide) ?_
        refine mx_iconstN 0 dL_alike_92 (by decide) ?_
        refine mx_iconstN 0 dL_alike_93 (by decide) ?_
        refine mx_callS (bc := 4 * (gN (zG z) - 0) + 102) (bs := 24 * (gN (zG z) - 0) + 612) (As := [.ref a, .int (nI 2), .int (nI 1), .int (nI 0), .int (nI 0)]) (rest := []) (b1 := 1) (b2 := 6) dL_alike_94 (lc_about G15 I15 a z hWa15 (nI 1) (nI 0) (nI 0)) km_L_call rfl k_664 k_665 rfl rfl (Nat.le_of_ble_eq_true rfl) (by decide) (fun _ _ _ q => q.elim) (fun r31 G16 I16 h32 => ?_)
        obtain ⟨e9, hQ16⟩ := h32
        rw [tv_0 (by decide : fl_about (nI 1) = 0), show an_about z (nI 1).toInt.toNat = nI (gN (zG z)) from rfl] at e9
        subst e9
        have hWa16 := hQ16.1
        have hWb16 := hQ16.oth hWa15.1.1 hWb15 (Or.inl hab)
        refine mx_istoreE (i := 5) (ls' := [some (.ref a), some (.ref b), some (.int (nI x)), some (.int (nI 1)), some (.int (nI (gP (zG z)))), some (.int (nI (gN (zG z)))), none, none]) (hd := dL_alike_97) (hn := by decide) (hok := rfl) (hls := rfl) ?_
        refine mx_iconstN 0 dL_alike_99 (by decide) ?_
        refine mx_istoreE (i := 6) (ls' := [some (.ref a), some (.ref b), some (.int (nI x)), some (.int (nI 1)), some (.int (nI (gP (zG z)))), some (.int (nI (gN (zG z)))), some (.int (nI 0)), none]) (hd := dL_alike_100) (hn := by decide) (hok := rfl) (hls := rfl) ?_
        exact L102 _ 0 _ _ (Nat.lt_succ_self _) (Nat.zero_le _) hWa16 hWb16
      · skip
        refine mx_iload_n (i := 3) (hi := rfl) (hl := rfl) (hd := dL_alike_42) ?_
        refine mx_if1_eq 79 dL_alike_43 (by decide) ?_
        refine mx_wk (bc' := 2 * (8 - (i + 1)) + 200 + 2) (bs' := 12 * (8 - (i + 1)) + 1200 + 12) (by omega) (by omega) ?_
        refine mx_aload_n (i := 0) (hi := rfl) (hl := rfl) (hd := dL_alike_46) ?_
        refine mx_iconstN 2 dL_alike_47 (by decide) ?_
        refine mx_iload (i := 4) (hl := rfl) (hd := dL_alike_48) ?_
        refine mx_iconstN 0 dL_alike_50 (by decide) ?_
        refine mx_iconstN 0 dL_alike_51 (by decide) ?_
        refine mx_callS (bc := 2 * (8 - (i + 1)) + 200 + 1) (bs := 12 * (8 - (i + 1)) + 1200 + 6) (As := [.ref a, .int (nI 2), .int (nI i), .int (nI 0), .int (nI 0)]) (rest := []) (b1 := 1) (b2 := 6) dL_alike_52 (lc_about G1 I1 a z hWa (nI i) (nI 0) (nI 0)) km_L_call rfl k_664 k_665 rfl rfl (Nat.le_of_ble_eq_true rfl) (by decide) (fun _ _ _ q => q.elim) (fun r33 G17 I17 h34 => ?_)
        obtain ⟨e9, hQ17⟩ := h34
        subst e9
        have hWa17 := hQ17.1
        have hWb17 := hQ17.oth hWa.1.1 hWb (Or.inl hab)
        refine mx_aload_n (i := 1) (hi := rfl) (hl := rfl) (hd := dL_alike_55) ?_
        refine mx_iconstN 2 dL_alike_56 (by decide) ?_
        refine mx_iload (i := 4) (hl := rfl) (hd := dL_alike_57) ?_
        refine mx_iconstN 0 dL_alike_59 (by decide) ?_
        refine mx_iconstN 0 dL_alike_60 (by decide) ?_
        refine mx_callS (bc := 2 * (8 - (i + 1)) + 200) (bs := 12 * (8 - (i + 1)) + 1200) (As := [.ref b, .int (nI 2), .int (nI i), .int (nI 0), .int (nI 0)]) (rest := [.int (tv (fl_about (nI i)) (an_about z (nI i).toInt.toNat))]) (b1 := 1) (b2 := 6) dL_alike_61 (lc_about G17 I17 b z hWb17 (nI i) (nI 0) (nI 0)) km_L_call rfl k_664 k_665 rfl rfl (Nat.le_of_ble_eq_true rfl) (by decide) (fun _ _ _ q => q.elim) (fun r35 G18 I18 h36 => ?_)
        obtain ⟨e9, hQ18⟩ := h36
        subst e9
        have hWb18 := hQ18.1
        have hWa18 := hQ18.oth hWb17.1.1 hWa17 (Or.inr hab)
        refine mx_icmp_ne (tgt := 71) dL_alike_64 (by decide) (fun c64 => ?_) (fun c64 => ?_)
        · skip
          exact absurd rfl c64
        · skip
          refine mx_iconstN 1 dL_alike_67 (by decide) ?_
          refine mx_goto (tgt := 72) dL_alike_68 (by decide) ?_
          refine mx_istoreE_n (i := 3) (ls' := [some (.ref a), some (.ref b), some (.int (nI x)), some (.int (nI 1)), some (.int (nI i)), none, none, none]) (hi := rfl) (hd := dL_alike_72) (hn := by decide) (hok := rfl) (hls := rfl) ?_
          refine mx_iincE (i := 4) (ls' := [some (.ref a), some (.ref b), some (.int (nI x)), some (.int (nI 1)), some (.int (nI (i + 1))), none, none, none]) 1 dL_alike_73 rfl (by decide) (by decide) rfl rfl ?_
          refine mx_goto (tgt := 35) dL_alike_76 (by decide) ?_
          exact ih (i + 1) _ _ (by omega) (by omega) hWa18 hWb18
  refine mx_aload_n (i := 0) (hi := rfl) (hl := rfl) (hd := dL_alike_0) ?_
  refine mx_iconstN 1 dL_alike_1 (by decide) ?_
  refine mx_top (y := mx_b (decide (true = true))) (mx_bT rfl) ?_
  refine mx_callV (ci := 9) (As := [.int (mx_b (decide (true = true)))]) (rest := []) (b1 := 0) (b2 := 0) dL_alike_2 (ct_errorPosition G I a z hWa true) km_X9_errorPosition rfl k_990 k_991 k_992 (by assumption) rfl rfl (Nat.le_of_ble_eq_true rfl) (by decide) (fun _ _ _ q => q.elim) (fun r37 G19 I19 h38 => ?_)
  obtain ⟨e9, hQ19⟩ := h38
  subst e9
  have hWa19 := hQ19.1
  have hWb19 := hQ19.oth hWa.1.1 hWb (Or.inl hab)
  have tga19 : mx_tg G19 a = 19 := hWa19.1.1.1
  have tgb19 : mx_tg G19 b = 19 := hWb19.1.1.1
  refine mx_aload_n (i := 1) (hi := rfl) (hl := rfl) (hd := dL_alike_5) ?_
  refine mx_iconstN 1 dL_alike_6 (by decide) ?_
  refine mx_top (y := mx_b (decide (true = true))) (mx_bT rfl) ?_
  refine mx_callV (ci := 9) (As := [.int (mx_b (decide (true = true)))]) (rest := [.int (an_err z true)]) (b1 := 0) (b2 := 0) dL_alike_7 (ct_errorPosition G19 I19 b z hWb19 true) km_X9_errorPosition rfl k_990 k_991 k_992 (by assumption) rfl rfl (Nat.le_of_ble_eq_true rfl) (by decide) (fun _ _ _ q => q.elim) (fun r39 G20 I20 h40 => ?_)
  obtain ⟨e9, hQ20⟩ := h40
  subst e9
  have hWb20 := hQ20.1
  have hWa20 := hQ20.oth hWb19.1.1 hWa19 (Or.inr hab)
  have tga20 : mx_tg G20 a = 19 := hWa20.1.1.1
  have tgb20 : mx_tg G20 b = 19 := hWb20.1.1.1
  refine mx_icmp_ne (tgt := 30) dL_alike_10 (by decide) (fun c10 => ?_) (fun c10 => ?_)
  · skip
    exact absurd rfl c10
  · skip
    refine mx_aload_n (i := 0) (hi := rfl) (hl := rfl) (hd := dL_alike_13) ?_
    refine mx_iconstN 0 dL_alike_14 (by decide) ?_
    refine mx_top (y := mx_b (decide (false = true))) (mx_bF (fun q9 => (nomatch q9))) ?_
    refine mx_callV (ci := 9) (As := [.int (mx_b (decide (false = true)))]) (rest := []) (b1 := 0) (b2 := 0) dL_alike_15 (ct_errorPosition G20 I20 a z hWa20 false) km_X9_errorPosition rfl k_990 k_991 k_992 (by assumption) rfl rfl (Nat.le_of_ble_eq_true rfl) (by decide) (fun _ _ _ q => q.elim) (fun r41 G21 I21 h42 => ?_)
    obtain ⟨e9, hQ21⟩ := h42
    subst e9
    have hWa21 := hQ21.1
    have hWb21 := hQ21.oth hWa20.1.1 hWb20 (Or.inl hab)
    have tga21 : mx_tg G21 a = 19 := hWa21.1.1.1
    have tgb21 : mx_tg G21 b = 19 := hWb21.1.1.1
    refine mx_aload_n (i := 1) (hi := rfl) (hl := rfl) (hd := dL_alike_18) ?_
    refine mx_iconstN 0 dL_alike_19 (by decide) ?_
    refine mx_top (y := mx_b (decide (false = true))) (mx_bF (fun q9 => (nomatch q9))) ?_
    refine mx_callV (ci := 9) (As := [.int (mx_b (decide (false = true)))]) (rest := [.int (an_err z false)]) (b1 := 0) (b2 := 0) dL_alike_20 (ct_errorPosition G21 I21 b z hWb21 false) km_X9_errorPosition rfl k_990 k_991 k_992 (by assumption) rfl rfl (Nat.le_of_ble_eq_true rfl) (by decide) (fun _ _ _ q => q.elim) (fun r43 G22 I22 h44 => ?_)
    obtain ⟨e9, hQ22⟩ := h44
    subst e9
    have hWb22 := hQ22.1
    have hWa22 := hQ22.oth hWb21.1.1 hWa21 (Or.inr hab)
    have tga22 : mx_tg G22 a = 19 := hWa22.1.1.1
    have tgb22 : mx_tg G22 b = 19 := hWb22.1.1.1
    refine mx_icmp_ne (tgt := 30) dL_alike_23 (by decide) (fun c23 => ?_) (fun c23 => ?_)
    · skip
      exact absurd rfl c23
    · skip
      refine mx_iconstN 1 dL_alike_26 (by decide) ?_
      refine mx_goto (tgt := 31) dL_alike_27 (by decide) ?_
      refine mx_istoreE_n (i := 3) (ls' := [some (.ref a), some (.ref b), some (.int (nI x)), some (.int (nI 1)), none, none, none, none]) (hi := rfl) (hd := dL_alike_31) (hn := by decide) (hok := rfl) (hls := rfl) ?_
      refine mx_wk (bc' := 2 * (8 - 0) + 200) (bs' := 12 * (8 - 0) + 1200) (by omega) (by omega) ?_
      refine mx_iconstN 0 dL_alike_32 (by decide) ?_
      refine mx_istoreE (i := 4) (ls' := [some (.ref a), some (.ref b), some (.int (nI x)), some (.int (nI 1)), some (.int (nI 0)), none, none, none]) (hd := dL_alike_33) (hn := by decide) (hok := rfl) (hls := rfl) ?_
      exact L35 _ 0 _ _ (Nat.lt_succ_self _) (Nat.zero_le _) hWa22 hWb22
