/-! THE LAW: its cases -/
abbrev mL_law (hh : List (Nat × Nat × Nat × Nat)) : mx_MI := (RL, cL_law, 7, ret, hh, false)
theorem lwQ.t {G Gz : mx_G} {I Iz : mx_I} {a o : Nat} {z nx : Zs} {mf : Nat} {val : Int32} {rv : Option Value} (h : lwQ G I a o z mf val nx rv Gz Iz) (to : mx_tg G o = 4) (lo : mx_ln G o = 1) : mx_tg Gz o = 4 ∧ mx_ln Gz o = 1 := by
  have key : mx_sm G Gz → mx_tg Gz o = 4 ∧ mx_ln Gz o = 1 := fun k => by
    have h7 := k o (by rw [to]; decide)
    exact ⟨h7.1.trans to, h7.2.1.trans lo⟩
  by_cases c : mf = 0
  · exact key (h.2.1 c).1.2.1
  · exact key (h.2.2 c).2.1

set_option maxHeartbeats 400000 in
set_option maxRecDepth 100000 in
theorem lc_clearText (hh : List (Nat × Nat × Nat × Nat)) (Sc : mx_Sc) (hS : mx_hS Sc) (bc bs : Nat) (G : mx_G) (I : mx_I) (a m o : Nat) (z : Zs) (i : Nat) (hi : i + 5 ≤ Sc.2.1) (hL : Sc.2.1 ≤ 2560) (hw : LW G I a m o z) (Q : Option Value → mx_G → mx_I → Prop) (X : String → mx_G → mx_I → Prop) (K : ∀ G' I' z', LW G' I' a m o z' → mx_V (mL_law hh) Sc 10 bc bs 1974 [some (.ref Sc.1), some (.ref a), some (.ref m), some (.ref o), some (.int (nI i)), none, none] [] G' I' Q X) : mx_V (mL_law hh) Sc 10 (bc + 10) (bs + 110) 220 [some (.ref Sc.1), some (.ref a), some (.ref m), some (.ref o), some (.int (nI i)), none, none] [] G I Q X := by
  refine mx_wk (bc' := bc + 0) (bs' := bs + 0) (by omega) (by omega) ?_
  obtain ⟨hW, hM, hz, ham, to, lo⟩ := id hw
  have tg9 : mx_tg G a = 19 := hW.1.1.1
  have tgm : mx_tg G m = 20 := hM.1.1
  obtain ⟨s1, es1⟩ : ∃ s1, Sc.2.2 (i + 1) = s1 := ⟨_, rfl⟩
  obtain ⟨s2, es2⟩ : ∃ s2, Sc.2.2 (i + 2) = s2 := ⟨_, rfl⟩
  obtain ⟨s3, es3⟩ : ∃ s3, Sc.2.2 (i + 3) = s3 := ⟨_, rfl⟩
  obtain ⟨s4, es4⟩ : ∃ s4, Sc.2.2 (i + 4) = s4 := ⟨_, rfl⟩
  refine mx_aload_n (i := 1) (hi := rfl) (hl := rfl) (hd := dL_law_220) ?_
  refine mx_callV (ci := 9) (As := []) (rest := []) (b1 := 0) (b2 := 0) dL_law_221 (ct_clearText G I a z hW) km_X9_clearText rfl k_359 k_360 k_361 (by assumption) rfl rfl (Nat.le_of_ble_eq_true rfl) (by decide) (fun _ _ _ q => q.elim) (fun r1 G1 I1 h2 => ?_)
  obtain ⟨e9, hP⟩ := h2
  subst e9
  have hM1 : mW G1 I1 m z := hw.2.1.sm ham hP
  have tgm1 : mx_tg G1 m = 20 := hM1.1.1
  refine mx_aload_n (i := 2) (hi := rfl) (hl := rfl) (hd := dL_law_224) ?_
  refine mx_callVi (ci := 10) (As := []) (rest := [.int (nI (zN z))]) dL_law_225 (mt_clearText G1 I1 m z hM1) km_X10_clearText rfl k_1126 k_1127 k_1128 (by assumption) rfl rfl (Nat.le_of_ble_eq_true rfl) (by decide) (fun r3 I2 h4 => ?_)
  obtain ⟨e9, hW2, hfr⟩ := h4
  subst e9
  refine mx_icmp_eq (tgt := 1974) dL_law_228 (by decide) (fun c228 => ?_) (fun c228 => ?_)
  · skip
    exact K _ _ _ (hw.go hP hW2 hfr (hz.txt _))
  · skip
    exact absurd rfl c228

set_option maxHeartbeats 400000 in
set_option maxRecDepth 100000 in
theorem lc_errorPosition (hh : List (Nat × Nat × Nat × Nat)) (Sc : mx_Sc) (hS : mx_hS Sc) (bc bs : Nat) (G : mx_G) (I : mx_I) (a m o : Nat) (z : Zs) (i : Nat) (hi : i + 5 ≤ Sc.2.1) (hL : Sc.2.1 ≤ 2560) (hw : LW G I a m o z) (Q : Option Value → mx_G → mx_I → Prop) (X : String → mx_G → mx_I → Prop) (K : ∀ G' I' z', LW G' I' a m o z' → mx_V (mL_law hh) Sc 10 bc bs 1974 [some (.ref Sc.1), some (.ref a), some (.ref m), some (.ref o), some (.int (nI i)), none, none] [] G' I' Q X) : mx_V (mL_law hh) Sc 10 (bc + 10) (bs + 110) 233 [some (.ref Sc.1), some (.ref a), some (.ref m), some (.ref o), some (.int (nI i)), none, none] [] G I Q X := by
  refine mx_wk (bc' := bc + 0) (bs' := bs + 0) (by omega) (by omega) ?_
  obtain ⟨hW, hM, hz, ham, to, lo⟩ := id hw
  have tg9 : mx_tg G a = 19 := hW.1.1.1
  have tgm : mx_tg G m = 20 := hM.1.1
  obtain ⟨s1, es1⟩ : ∃ s1, Sc.2.2 (i + 1) = s1 := ⟨_, rfl⟩
  obtain ⟨s2, es2⟩ : ∃ s2, Sc.2.2 (i + 2) = s2 := ⟨_, rfl⟩
  obtain ⟨s3, es3⟩ : ∃ s3, Sc.2.2 (i + 3) = s3 := ⟨_, rfl⟩
  obtain ⟨s4, es4⟩ : ∃ s4, Sc.2.2 (i + 4) = s4 := ⟨_, rfl⟩
  refine mx_aload_n (i := 1) (hi := rfl) (hl := rfl) (hd := dL_law_233) ?_
  refine mx_aload_n (i := 0) (hi := rfl) (hl := rfl) (hd := dL_law_234) ?_
  refine mx_iload (i := 4) (hl := rfl) (hd := dL_law_235) ?_
  refine mx_iconstN 1 dL_law_237 (by decide) ?_
  refine mx_iaddN dL_law_238 ?_
  refine mx_scld (i + 1) hS dL_law_239 ⟨rfl, by omega, by omega⟩ ?_
  refine mx_top (y := s1) es1 ?_
  refine mx_if_eq (tgt := 247) dL_law_240 (by decide) (fun c240 => ?_) (fun c240 => ?_)
  · skip
    refine mx_iconstN 0 dL_law_247 (by decide) ?_
    refine mx_top (y := mx_b (decide (false = true))) (mx_bF (fun q9 => (nomatch q9))) ?_
    refine mx_callV (ci := 9) (As := [.int (mx_b (decide (false = true)))]) (rest := []) (b1 := 0) (b2 := 0) dL_law_248 (ct_errorPosition G I a z hW false) km_X9_errorPosition rfl k_363 k_364 k_365 (by assumption) rfl rfl (Nat.le_of_ble_eq_true rfl) (by decide) (fun _ _ _ q => q.elim) (fun r1 G1 I1 h2 => ?_)
    obtain ⟨e9, hP⟩ := h2
    subst e9
    have hM1 : mW G1 I1 m z := hw.2.1.sm ham hP
    have tgm1 : mx_tg G1 m = 20 := hM1.1.1
    refine mx_aload_n (i := 2) (hi := rfl) (hl := rfl) (hd := dL_law_251) ?_
    refine mx_aload_n (i := 0) (hi := rfl) (hl := rfl) (hd := dL_law_252) ?_
    refine mx_iload (i := 4) (hl := rfl) (hd := dL_law_253) ?_
    refine mx_iconstN 1 dL_law_255 (by decide) ?_
    refine mx_iaddN dL_law_256 ?_
    refine mx_scld (i + 1) hS dL_law_257 ⟨rfl, by omega, by omega⟩ ?_
    refine mx_top (y := s1) es1 ?_
    refine mx_if_eq (tgt := 265) dL_law_258 (by decide) (fun c258 => ?_) (fun c258 => ?_)
    · skip
      
      refine mx_iconstN 0 dL_law_265 (by decide) ?_
      refine mx_top (y := mx_b (decide (false = true))) (mx_bF (fun q9 => (nomatch q9))) ?_
      refine mx_callVi (ci := 10) (As := [.int (mx_b (decide (false = true)))]) (rest := [.int (an_err z false)]) dL_law_266 (mt_errorPosition G1 I1 m z hM1 false) km_X10_errorPosition rfl k_1130 k_1131 k_1132 (by assumption) rfl rfl (Nat.le_of_ble_eq_true rfl) (by decide) (fun r3 I2 h4 => ?_)
      obtain ⟨e9, hW2, hfr⟩ := h4
      subst e9
      refine mx_icmp_eq (tgt := 1974) dL_law_269 (by decide) (fun c269 => ?_) (fun c269 => ?_)
      · skip
        exact K _ _ _ (hw.go hP hW2 hfr hz)
      · skip
        exact absurd rfl c269
    · skip
      exact absurd c240 c258
  · skip
    refine mx_iconstN 1 dL_law_243 (by decide) ?_
    refine mx_goto (tgt := 248) dL_law_244 (by decide) ?_
    refine mx_top (y := mx_b (decide (true = true))) (mx_bT rfl) ?_
    refine mx_callV (ci := 9) (As := [.int (mx_b (decide (true = true)))]) (rest := []) (b1 := 0) (b2 := 0) dL_law_248 (ct_errorPosition G I a z hW true) km_X9_errorPosition rfl k_363 k_364 k_365 (by assumption) rfl rfl (Nat.le_of_ble_eq_true rfl) (by decide) (fun _ _ _ q => q.elim) (fun r5 G1 I1 h6 => ?_)
    obtain ⟨e9, hP⟩ := h6
    subst e9
    have hM1 : mW G1 I1 m z := hw.2.1.sm ham hP
    have tgm1 : mx_tg G1 m = 20 := hM1.1.1
    refine mx_aload_n (i := 2) (hi := rfl) (hl := rfl) (hd := dL_law_251) ?_
    refine mx_aload_n (i := 0) (hi := rfl) (hl := rfl) (hd := dL_law_252) ?_
    refine mx_iload (i := 4) (hl := rfl) (hd := dL_law_253) ?_
    refine mx_iconstN 1 dL_law_255 (by decide) ?_
    refine mx_iaddN dL_law_256 ?_
    refine mx_scld (i + 1) hS dL_law_257 ⟨rfl, by omega, by omega⟩ ?_
    refine mx_top (y := s1) es1 ?_
    refine mx_if_eq (tgt := 265) dL_law_258 (by decide) (fun c258 => ?_) (fun c258 => ?_)
    · skip
      exact absurd c258 c240
    · skip
      
      refine mx_iconstN 1 dL_law_261 (by decide) ?_
      refine mx_goto (tgt := 266) dL_law_262 (by decide) ?_
      refine mx_top (y := mx_b (decide (true = true))) (mx_bT rfl) ?_
      refine mx_callVi (ci := 10) (As := [.int (mx_b (decide (true = true)))]) (rest := [.int (an_err z true)]) dL_law_266 (mt_errorPosition G1 I1 m z hM1 true) km_X10_errorPosition rfl k_1130 k_1131 k_1132 (by assumption) rfl rfl (Nat.le_of_ble_eq_true rfl) (by decide) (fun r7 I2 h8 => ?_)
      obtain ⟨e9, hW2, hfr⟩ := h8
      subst e9
      refine mx_icmp_eq (tgt := 1974) dL_law_269 (by decide) (fun c269 => ?_) (fun c269 => ?_)
      · skip
        exact K _ _ _ (hw.go hP hW2 hfr hz)
      · skip
        exact absurd rfl c269

theorem mb_append (z : Zs) (c : Int32) : fl_append z c - 1 < 2 ^ 31 := by
  have h1 := rg_append z c
  first | omega | (rcases h1 with e | e | e <;> (rw [e]; decide))
set_option maxHeartbeats 400000 in
set_option maxRecDepth 100000 in
theorem lc_append (hh : List (Nat × Nat × Nat × Nat)) (Sc : mx_Sc) (hS : mx_hS Sc) (bc bs : Nat) (G : mx_G) (I : mx_I) (a m o : Nat) (z : Zs) (i : Nat) (hi : i + 5 ≤ Sc.2.1) (hL : Sc.2.1 ≤ 2560) (hw : LW G I a m o z) (Q : Option Value → mx_G → mx_I → Prop) (X : String → mx_G → mx_I → Prop) (K : ∀ G' I' z', LW G' I' a m o z' → mx_V (mL_law hh) Sc 10 bc bs 1974 [some (.ref Sc.1), some (.ref a), some (.ref m), some (.ref o), some (.int (nI i)), none, none] [] G' I' Q X) : mx_V (mL_law hh) Sc 10 (bc + 10) (bs + 110) 164 [some (.ref Sc.1), some (.ref a), some (.ref m), some (.ref o), some (.int (nI i)), none, none] [] G I Q X := by
  refine mx_wk (bc' := bc + 2) (bs' := bs + 12) (by omega) (by omega) ?_
  obtain ⟨hW, hM, hz, ham, to, lo⟩ := id hw
  have tg9 : mx_tg G a = 19 := hW.1.1.1
  have tgm : mx_tg G m = 20 := hM.1.1
  obtain ⟨s1, es1⟩ : ∃ s1, Sc.2.2 (i + 1) = s1 := ⟨_, rfl⟩
  obtain ⟨s2, es2⟩ : ∃ s2, Sc.2.2 (i + 2) = s2 := ⟨_, rfl⟩
  obtain ⟨s3, es3⟩ : ∃ s3, Sc.2.2 (i + 3) = s3 := ⟨_, rfl⟩
  obtain ⟨s4, es4⟩ : ∃ s4, Sc.2.2 (i + 4) = s4 := ⟨_, rfl⟩
  refine mx_aload_n (i := 1) (hi := rfl) (hl := rfl) (hd := dL_law_164) ?_
  refine mx_aload_n (i := 0) (hi := rfl) (hl := rfl) (hd := dL_law_165) ?_
  refine mx_iload (i := 4) (hl := rfl) (hd := dL_law_166) ?_
  refine mx_iconstN 1 dL_law_168 (by decide) ?_
  refine mx_iaddN dL_law_169 ?_
  refine mx_scld (i + 1) hS dL_law_170 ⟨rfl, by omega, by omega⟩ ?_
  refine mx_top (y := s1) es1 ?_
  refine mx_aload_n (i := 3) (hi := rfl) (hl := rfl) (hd := dL_law_171) ?_
  refine mx_callSW (As := [.ref a, .int s1, .ref o]) (rest := []) (b1 := 2) (b2 := 12) dL_law_172 (lw_append G I a o z hW to lo s1) km_L_append rfl k_403 k_404 rfl rfl (Nat.le_of_ble_eq_true rfl) (by decide) (fun _ _ _ q => q.elim) (fun r1 G1 I1 h2 => ?_)
  have hM1 : mW G1 I1 m z := lwQ.m h2 hw
  obtain ⟨to1, lo1⟩ := lwQ.t h2 to lo
  obtain ⟨e9, hq1, hq2⟩ := h2
  subst e9
  have tgm1 : mx_tg G1 m = 20 := hM1.1.1
  refine mx_istoreE (i := 5) (ls' := [some (.ref Sc.1), some (.ref a), some (.ref m), some (.ref o), some (.int (nI i)), some (.int (nI (fl_append z s1 - 1))), none]) (hd := dL_law_175) (hn := (by decide : (5 : Nat) < 7)) (hok := rfl) (hls := rfl) ?_
  refine mx_aload_n (i := 2) (hi := rfl) (hl := rfl) (hd := dL_law_177) ?_
  refine mx_aload_n (i := 0) (hi := rfl) (hl := rfl) (hd := dL_law_178) ?_
  refine mx_iload (i := 4) (hl := rfl) (hd := dL_law_179) ?_
  refine mx_iconstN 1 dL_law_181 (by decide) ?_
  refine mx_iaddN dL_law_182 ?_
  refine mx_scld (i + 1) hS dL_law_183 ⟨rfl, by omega, by omega⟩ ?_
  refine mx_top (y := s1) es1 ?_
  refine mx_callVi (ci := 10) (As := [.int s1]) (rest := []) dL_law_184 (mt_append G1 I1 m z hM1 s1) km_X10_append rfl k_1114 k_1115 k_1116 (by assumption) rfl rfl (Nat.le_of_ble_eq_true rfl) (by decide) (fun r3 I2 h4 => ?_)
  obtain ⟨hr0, hfr, hy, hn⟩ := h4
  by_cases hk0 : fl_append z s1 - 1 = 0
  · obtain ⟨e9, hW2⟩ := hy hk0
    subst e9
    have f0 : fl_append z s1 = 0 := mz_append z s1 hk0
    refine mx_istoreE (i := 6) (ls' := [some (.ref Sc.1), some (.ref a), some (.ref m), some (.ref o), some (.int (nI i)), some (.int (nI (fl_append z s1 - 1))), some (.int (nI (zN z + 1)))]) (hd := dL_law_187) (hn := (by decide : (6 : Nat) < 7)) (hok := rfl) (hls := rfl) ?_
    refine mx_aload_n (i := 2) (hi := rfl) (hl := rfl) (hd := dL_law_189) ?_
    refine mx_callVp (ci := 10) (As := []) (rest := []) dL_law_190 (mt_thrown G1 I2 m hW2.1) km_X10_thrown rfl k_1110 k_1111 k_1112 (by assumption) rfl rfl (Nat.le_of_ble_eq_true rfl) (by decide) ?_
    refine mx_top (y := nI (fl_append z s1 - 1)) (hr0) ?_
    refine mx_iload (i := 5) (hl := rfl) (hd := dL_law_193) ?_
    refine mx_icmp_eq (tgt := 200) dL_law_195 (by decide) (fun c195 => ?_) (fun c195 => ?_)
    · skip
      refine mx_iload (i := 5) (hl := rfl) (hd := dL_law_200) ?_
      refine mx_if_ne (tgt := 217) dL_law_202 (by decide) (fun c202 => ?_) (fun c202 => ?_)
      · skip
        exact absurd (show nI (fl_append z s1 - 1) = 0 by rw [hk0]; rfl) c202
      · skip
        
        refine mx_aload_n (i := 3) (hi := rfl) (hl := rfl) (hd := dL_law_205) ?_
        refine mx_iconstN 0 dL_law_206 (by decide) ?_
        refine mx_lald 0 dL_law_207 (by assumption) ⟨rfl, by omega, by omega⟩ ?_
        refine mx_topl (y := (nI (zN z + 1)).toInt64) ((hq1 hk0).2) ?_
        refine mx_iload (i := 6) (hl := rfl) (hd := dL_law_208) ?_
        refine mx_i2l (hv := rfl) (hd := dL_law_210) ?_
        refine mx_lcmp dL_law_211 ?_
        refine mx_if_eq (tgt := 217) dL_law_212 (by decide) (fun c212 => ?_) (fun c212 => ?_)
        · skip
          refine mx_goto (tgt := 1974) dL_law_217 (by decide) ?_
          refine mx_leS (ls' := [some (.ref Sc.1), some (.ref a), some (.ref m), some (.ref o), some (.int (nI i)), none, none]) ⟨rfl, rfl, rfl, rfl, rfl, trivial⟩ ?_
          exact K _ _ _ (hw.go (hq1 hk0).1 hW2 hfr (hz.txt _))
        · skip
          exact absurd (lgc_self _) c212
    · skip
      exact absurd rfl c195
  · obtain ⟨⟨w9, e9⟩, hW2⟩ := hn hk0
    subst e9
    refine mx_istoreE (i := 6) (ls' := [some (.ref Sc.1), some (.ref a), some (.ref m), some (.ref o), some (.int (nI i)), some (.int (nI (fl_append z s1 - 1))), some (.int w9)]) (hd := dL_law_187) (hn := (by decide : (6 : Nat) < 7)) (hok := rfl) (hls := rfl) ?_
    refine mx_aload_n (i := 2) (hi := rfl) (hl := rfl) (hd := dL_law_189) ?_
    refine mx_callVp (ci := 10) (As := []) (rest := []) dL_law_190 (mt_thrown G1 I2 m hW2.1) km_X10_thrown rfl k_1110 k_1111 k_1112 (by assumption) rfl rfl (Nat.le_of_ble_eq_true rfl) (by decide) ?_
    refine mx_top (y := nI (fl_append z s1 - 1)) (hr0) ?_
    refine mx_iload (i := 5) (hl := rfl) (hd := dL_law_193) ?_
    refine mx_icmp_eq (tgt := 200) dL_law_195 (by decide) (fun c195 => ?_) (fun c195 => ?_)
    · skip
      refine mx_iload (i := 5) (hl := rfl) (hd := dL_law_200) ?_
      refine mx_if_ne (tgt := 217) dL_law_202 (by decide) (fun c202 => ?_) (fun c202 => ?_)
      · skip
        
        refine mx_goto (tgt := 1974) dL_law_217 (by decide) ?_
        refine mx_leS (ls' := [some (.ref Sc.1), some (.ref a), some (.ref m), some (.ref o), some (.int (nI i)), none, none]) ⟨rfl, rfl, rfl, rfl, rfl, trivial⟩ ?_
        exact K _ _ _ (hw.go (hq2 hk0) hW2 hfr hz)
      · skip
        exact absurd ((nI_eq (mb_append z s1) (by decide)).mp c202) hk0
    · skip
      exact absurd rfl c195

theorem mb_load (z : Zs) : fl_load z - 2 < 2 ^ 31 := by
  have h1 := rg_load z
  first | omega | (rcases h1 with e | e | e <;> (rw [e]; decide))
set_option maxHeartbeats 400000 in
set_option maxRecDepth 100000 in
theorem lc_load (hh : List (Nat × Nat × Nat × Nat)) (Sc : mx_Sc) (hS : mx_hS Sc) (bc bs : Nat) (G : mx_G) (I : mx_I) (a m o : Nat) (z : Zs) (i : Nat) (hi : i + 5 ≤ Sc.2.1) (hL : Sc.2.1 ≤ 2560) (hw : LW G I a m o z) (Q : Option Value → mx_G → mx_I → Prop) (X : String → mx_G → mx_I → Prop) (K : ∀ G' I' z', LW G' I' a m o z' → mx_V (mL_law hh) Sc 10 bc bs 1974 [some (.ref Sc.1), some (.ref a), some (.ref m), some (.ref o), some (.int (nI i)), none, none] [] G' I' Q X) : mx_V (mL_law hh) Sc 10 (bc + 10) (bs + 110) 274 [some (.ref Sc.1), some (.ref a), some (.ref m), some (.ref o), some (.int (nI i)), none, none] [] G I Q X := by
  refine mx_wk (bc' := bc + 1) (bs' := bs + 6) (by omega) (by omega) ?_
  obtain ⟨hW, hM, hz, ham, to, lo⟩ := id hw
  have tg9 : mx_tg G a = 19 := hW.1.1.1
  have tgm : mx_tg G m = 20 := hM.1.1
  obtain ⟨s1, es1⟩ : ∃ s1, Sc.2.2 (i + 1) = s1 := ⟨_, rfl⟩
  obtain ⟨s2, es2⟩ : ∃ s2, Sc.2.2 (i + 2) = s2 := ⟨_, rfl⟩
  obtain ⟨s3, es3⟩ : ∃ s3, Sc.2.2 (i + 3) = s3 := ⟨_, rfl⟩
  obtain ⟨s4, es4⟩ : ∃ s4, Sc.2.2 (i + 4) = s4 := ⟨_, rfl⟩
  refine mx_aload_n (i := 1) (hi := rfl) (hl := rfl) (hd := dL_law_274) ?_
  refine mx_aload_n (i := 3) (hi := rfl) (hl := rfl) (hd := dL_law_275) ?_
  refine mx_callSW (As := [.ref a, .ref o]) (rest := []) (b1 := 1) (b2 := 6) dL_law_276 (lw_load G I a o z hW to lo) km_L_load rfl k_518 k_519 rfl rfl (Nat.le_of_ble_eq_true rfl) (by decide) (fun _ _ _ q => q.elim) (fun r1 G1 I1 h2 => ?_)
  have hM1 : mW G1 I1 m z := lwQ.m h2 hw
  obtain ⟨to1, lo1⟩ := lwQ.t h2 to lo
  obtain ⟨e9, hq1, hq2⟩ := h2
  subst e9
  have tgm1 : mx_tg G1 m = 20 := hM1.1.1
  refine mx_istoreE (i := 5) (ls' := [some (.ref Sc.1), some (.ref a), some (.ref m), some (.ref o), some (.int (nI i)), some (.int (nI (fl_load z - 2))), none]) (hd := dL_law_279) (hn := (by decide : (5 : Nat) < 7)) (hok := rfl) (hls := rfl) ?_
  refine mx_aload_n (i := 2) (hi := rfl) (hl := rfl) (hd := dL_law_281) ?_
  refine mx_callVi (ci := 10) (As := []) (rest := []) dL_law_282 (mt_load G1 I1 m z hM1) km_X10_load rfl k_1186 k_1187 k_1188 (by assumption) rfl rfl (Nat.le_of_ble_eq_true rfl) (by decide) (fun r3 I2 h4 => ?_)
  obtain ⟨hr0, hfr, hy, hn⟩ := h4
  by_cases hk0 : fl_load z - 2 = 0
  · obtain ⟨e9, hW2⟩ := hy hk0
    subst e9
    have f0 : fl_load z = 0 := mz_load z hk0
    refine mx_istoreE (i := 6) (ls' := [some (.ref Sc.1), some (.ref a), some (.ref m), some (.ref o), some (.int (nI i)), some (.int (nI (fl_load z - 2))), some (.int (nI (gN (zG (nx_load z)))))]) (hd := dL_law_285) (hn := (by decide : (6 : Nat) < 7)) (hok := rfl) (hls := rfl) ?_
    refine mx_aload_n (i := 2) (hi := rfl) (hl := rfl) (hd := dL_law_287) ?_
    refine mx_callVp (ci := 10) (As := []) (rest := []) dL_law_288 (mt_thrown G1 I2 m hW2.1) km_X10_thrown rfl k_1110 k_1111 k_1112 (by assumption) rfl rfl (Nat.le_of_ble_eq_true rfl) (by decide) ?_
    refine mx_top (y := nI (fl_load z - 2)) (hr0) ?_
    refine mx_iload (i := 5) (hl := rfl) (hd := dL_law_291) ?_
    refine mx_icmp_eq (tgt := 298) dL_law_293 (by decide) (fun c293 => ?_) (fun c293 => ?_)
    · skip
      refine mx_iload (i := 5) (hl := rfl) (hd := dL_law_298) ?_
      refine mx_if_ne (tgt := 315) dL_law_300 (by decide) (fun c300 => ?_) (fun c300 => ?_)
      · skip
        exact absurd (show nI (fl_load z - 2) = 0 by rw [hk0]; rfl) c300
      · skip
        
        refine mx_aload_n (i := 3) (hi := rfl) (hl := rfl) (hd := dL_law_303) ?_
        refine mx_iconstN 0 dL_law_304 (by decide) ?_
        refine mx_lald 0 dL_law_305 (by assumption) ⟨rfl, by omega, by omega⟩ ?_
        refine mx_topl (y := (nI (gN (zG (nx_load z)))).toInt64) ((hq1 hk0).2) ?_
        refine mx_iload (i := 6) (hl := rfl) (hd := dL_law_306) ?_
        refine mx_i2l (hv := rfl) (hd := dL_law_308) ?_
        refine mx_lcmp dL_law_309 ?_
        refine mx_if_eq (tgt := 315) dL_law_310 (by decide) (fun c310 => ?_) (fun c310 => ?_)
        · skip
          refine mx_goto (tgt := 1974) dL_law_315 (by decide) ?_
          refine mx_leS (ls' := [some (.ref Sc.1), some (.ref a), some (.ref m), some (.ref o), some (.int (nI i)), none, none]) ⟨rfl, rfl, rfl, rfl, rfl, trivial⟩ ?_
          exact K _ _ _ (hw.go (hq1 hk0).1 hW2 hfr (zi_load hz f0))
        · skip
          exact absurd (lgc_self _) c310
    · skip
      exact absurd rfl c293
  · obtain ⟨⟨w9, e9⟩, hW2⟩ := hn hk0
    subst e9
    refine mx_istoreE (i := 6) (ls' := [some (.ref Sc.1), some (.ref a), some (.ref m), some (.ref o), some (.int (nI i)), some (.int (nI (fl_load z - 2))), some (.int w9)]) (hd := dL_law_285) (hn := (by decide : (6 : Nat) < 7)) (hok := rfl) (hls := rfl) ?_
    refine mx_aload_n (i := 2) (hi := rfl) (hl := rfl) (hd := dL_law_287) ?_
    refine mx_callVp (ci := 10) (As := []) (rest := []) dL_law_288 (mt_thrown G1 I2 m hW2.1) km_X10_thrown rfl k_1110 k_1111 k_1112 (by assumption) rfl rfl (Nat.le_of_ble_eq_true rfl) (by decide) ?_
    refine mx_top (y := nI (fl_load z - 2)) (hr0) ?_
    refine mx_iload (i := 5) (hl := rfl) (hd := dL_law_291) ?_
    refine mx_icmp_eq (tgt := 298) dL_law_293 (by decide) (fun c293 => ?_) (fun c293 => ?_)
    · skip
      refine mx_iload (i := 5) (hl := rfl) (hd := dL_law_298) ?_
      refine mx_if_ne (tgt := 315) dL_law_300 (by decide) (fun c300 => ?_) (fun c300 => ?_)
      · skip
        
        refine mx_goto (tgt := 1974) dL_law_315 (by decide) ?_
        refine mx_leS (ls' := [some (.ref Sc.1), some (.ref a), some (.ref m), some (.ref o), some (.int (nI i)), none, none]) ⟨rfl, rfl, rfl, rfl, rfl, trivial⟩ ?_
        exact K _ _ _ (hw.go (hq2 hk0) hW2 hfr hz)
      · skip
        exact absurd ((nI_eq (mb_load z) (by decide)).mp c300) hk0
    · skip
      exact absurd rfl c293

theorem mb_about (z : Zs) (w : Int32) : fl_about w - 1 < 2 ^ 31 := by
  have h1 := rg_about z w
  first | omega | (rcases h1 with e | e | e <;> (rw [e]; decide))
set_option maxHeartbeats 400000 in
set_option maxRecDepth 100000 in
theorem lc_about (hh : List (Nat × Nat × Nat × Nat)) (Sc : mx_Sc) (hS : mx_hS Sc) (bc bs : Nat) (G : mx_G) (I : mx_I) (a m o : Nat) (z : Zs) (i : Nat) (hi : i + 5 ≤ Sc.2.1) (hL : Sc.2.1 ≤ 2560) (hw : LW G I a m o z) (Q : Option Value → mx_G → mx_I → Prop) (X : String → mx_G → mx_I → Prop) (K : ∀ G' I' z', LW G' I' a m o z' → mx_V (mL_law hh) Sc 10 bc bs 1974 [some (.ref Sc.1), some (.ref a), some (.ref m), some (.ref o), some (.int (nI i)), none, none] [] G' I' Q X) : mx_V (mL_law hh) Sc 10 (bc + 10) (bs + 110) 318 [some (.ref Sc.1), some (.ref a), some (.ref m), some (.ref o), some (.int (nI i)), none, none] [] G I Q X := by
  refine mx_wk (bc' := bc + 1) (bs' := bs + 6) (by omega) (by omega) ?_
  obtain ⟨hW, hM, hz, ham, to, lo⟩ := id hw
  have tg9 : mx_tg G a = 19 := hW.1.1.1
  have tgm : mx_tg G m = 20 := hM.1.1
  obtain ⟨s1, es1⟩ : ∃ s1, Sc.2.2 (i + 1) = s1 := ⟨_, rfl⟩
  obtain ⟨s2, es2⟩ : ∃ s2, Sc.2.2 (i + 2) = s2 := ⟨_, rfl⟩
  obtain ⟨s3, es3⟩ : ∃ s3, Sc.2.2 (i + 3) = s3 := ⟨_, rfl⟩
  obtain ⟨s4, es4⟩ : ∃ s4, Sc.2.2 (i + 4) = s4 := ⟨_, rfl⟩
  refine mx_aload_n (i := 1) (hi := rfl) (hl := rfl) (hd := dL_law_318) ?_
  refine mx_aload_n (i := 0) (hi := rfl) (hl := rfl) (hd := dL_law_319) ?_
  refine mx_iload (i := 4) (hl := rfl) (hd := dL_law_320) ?_
  refine mx_iconstN 1 dL_law_322 (by decide) ?_
  refine mx_iaddN dL_law_323 ?_
  refine mx_scld (i + 1) hS dL_law_324 ⟨rfl, by omega, by omega⟩ ?_
  refine mx_top (y := s1) es1 ?_
  refine mx_aload_n (i := 3) (hi := rfl) (hl := rfl) (hd := dL_law_325) ?_
  refine mx_callSW (As := [.ref a, .int s1, .ref o]) (rest := []) (b1 := 1) (b2 := 6) dL_law_326 (lw_about G I a o z hW to lo s1) km_L_about rfl k_533 k_534 rfl rfl (Nat.le_of_ble_eq_true rfl) (by decide) (fun _ _ _ q => q.elim) (fun r1 G1 I1 h2 => ?_)
  have hM1 : mW G1 I1 m z := lwQ.m h2 hw
  obtain ⟨to1, lo1⟩ := lwQ.t h2 to lo
  obtain ⟨e9, hq1, hq2⟩ := h2
  subst e9
  have tgm1 : mx_tg G1 m = 20 := hM1.1.1
  refine mx_istoreE (i := 5) (ls' := [some (.ref Sc.1), some (.ref a), some (.ref m), some (.ref o), some (.int (nI i)), some (.int (nI (fl_about s1 - 1))), none]) (hd := dL_law_329) (hn := (by decide : (5 : Nat) < 7)) (hok := rfl) (hls := rfl) ?_
  refine mx_aload_n (i := 2) (hi := rfl) (hl := rfl) (hd := dL_law_331) ?_
  refine mx_aload_n (i := 0) (hi := rfl) (hl := rfl) (hd := dL_law_332) ?_
  refine mx_iload (i := 4) (hl := rfl) (hd := dL_law_333) ?_
  refine mx_iconstN 1 dL_law_335 (by decide) ?_
  refine mx_iaddN dL_law_336 ?_
  refine mx_scld (i + 1) hS dL_law_337 ⟨rfl, by omega, by omega⟩ ?_
  refine mx_top (y := s1) es1 ?_
  refine mx_callVi (ci := 10) (As := [.int s1]) (rest := []) dL_law_338 (mt_about G1 I1 m z hM1 s1) km_X10_about rfl k_1193 k_1194 k_1195 (by assumption) rfl rfl (Nat.le_of_ble_eq_true rfl) (by decide) (fun r3 I2 h4 => ?_)
  obtain ⟨hr0, hfr, hy, hn⟩ := h4
  by_cases hk0 : fl_about s1 - 1 = 0
  · obtain ⟨e9, hW2⟩ := hy hk0
    have hv := vG_of hW hz
    rw [show am_about z s1.toInt.toNat = an_about z s1.toInt.toNat from (eq_about hv (by have := fl_about_0 hk0; omega)).symm] at e9
    subst e9
    have f0 : fl_about s1 = 0 := mz_about z s1 hk0
    refine mx_istoreE (i := 6) (ls' := [some (.ref Sc.1), some (.ref a), some (.ref m), some (.ref o), some (.int (nI i)), some (.int (nI (fl_about s1 - 1))), some (.int (an_about z s1.toInt.toNat))]) (hd := dL_law_341) (hn := (by decide : (6 : Nat) < 7)) (hok := rfl) (hls := rfl) ?_
    refine mx_aload_n (i := 2) (hi := rfl) (hl := rfl) (hd := dL_law_343) ?_
    refine mx_callVp (ci := 10) (As := []) (rest := []) dL_law_344 (mt_thrown G1 I2 m hW2.1) km_X10_thrown rfl k_1110 k_1111 k_1112 (by assumption) rfl rfl (Nat.le_of_ble_eq_true rfl) (by decide) ?_
    refine mx_top (y := nI (fl_about s1 - 1)) (hr0) ?_
    refine mx_iload (i := 5) (hl := rfl) (hd := dL_law_347) ?_
    refine mx_icmp_eq (tgt := 354) dL_law_349 (by decide) (fun c349 => ?_) (fun c349 => ?_)
    · skip
      refine mx_iload (i := 5) (hl := rfl) (hd := dL_law_354) ?_
      refine mx_if_ne (tgt := 371) dL_law_356 (by decide) (fun c356 => ?_) (fun c356 => ?_)
      · skip
        exact absurd (show nI (fl_about s1 - 1) = 0 by rw [hk0]; rfl) c356
      · skip
        
        refine mx_aload_n (i := 3) (hi := rfl) (hl := rfl) (hd := dL_law_359) ?_
        refine mx_iconstN 0 dL_law_360 (by decide) ?_
        refine mx_lald 0 dL_law_361 (by assumption) ⟨rfl, by omega, by omega⟩ ?_
        refine mx_topl (y := (an_about z s1.toInt.toNat).toInt64) ((hq1 hk0).2) ?_
        refine mx_iload (i := 6) (hl := rfl) (hd := dL_law_362) ?_
        refine mx_i2l (hv := rfl) (hd := dL_law_364) ?_
        refine mx_lcmp dL_law_365 ?_
        refine mx_if_eq (tgt := 371) dL_law_366 (by decide) (fun c366 => ?_) (fun c366 => ?_)
        · skip
          refine mx_goto (tgt := 1974) dL_law_371 (by decide) ?_
          refine mx_leS (ls' := [some (.ref Sc.1), some (.ref a), some (.ref m), some (.ref o), some (.int (nI i)), none, none]) ⟨rfl, rfl, rfl, rfl, rfl, trivial⟩ ?_
          exact K _ _ _ (hw.go (hq1 hk0).1 hW2 hfr (hz))
        · skip
          exact absurd (lgc_self _) c366
    · skip
      exact absurd rfl c349
  · obtain ⟨⟨w9, e9⟩, hW2⟩ := hn hk0
    subst e9
    refine mx_istoreE (i := 6) (ls' := [some (.ref Sc.1), some (.ref a), some (.ref m), some (.ref o), some (.int (nI i)), some (.int (nI (fl_about s1 - 1))), some (.int w9)]) (hd := dL_law_341) (hn := (by decide : (6 : Nat) < 7)) (hok := rfl) (hls := rfl) ?_
    refine mx_aload_n (i := 2) (hi := rfl) (hl := rfl) (hd := dL_law_343) ?_
    refine mx_callVp (ci := 10) (As := []) (rest := []) dL_law_344 (mt_thrown G1 I2 m hW2.1) km_X10_thrown rfl k_1110 k_1111 k_1112 (by assumption) rfl rfl (Nat.le_of_ble_eq_true rfl) (by decide) ?_
    refine mx_top (y := nI (fl_about s1 - 1)) (hr0) ?_
    refine mx_iload (i := 5) (hl := rfl) (hd := dL_law_347) ?_
    refine mx_icmp_eq (tgt := 354) dL_law_349 (by decide) (fun c349 => ?_) (fun c349 => ?_)
    · skip
      refine mx_iload (i := 5) (hl := rfl) (hd := dL_law_354) ?_
      refine mx_if_ne (tgt := 371) dL_law_356 (by decide) (fun c356 => ?_) (fun c356 => ?_)
      · skip
        
        refine mx_goto (tgt := 1974) dL_law_371 (by decide) ?_
        refine mx_leS (ls' := [some (.ref Sc.1), some (.ref a), some (.ref m), some (.ref o), some (.int (nI i)), none, none]) ⟨rfl, rfl, rfl, rfl, rfl, trivial⟩ ?_
        exact K _ _ _ (hw.go (hq2 hk0) hW2 hfr hz)
      · skip
        exact absurd ((nI_eq (mb_about z s1) (by decide)).mp c356) hk0
    · skip
      exact absurd rfl c349

theorem mb_step (z : Zs) (s : Int32) (w : Int32) : fl_step z s w < 2 ^ 31 := by
  have h1 := rg_step z s w
  first | omega | (rcases h1 with e | e | e <;> (rw [e]; decide))
set_option maxHeartbeats 400000 in
set_option maxRecDepth 100000 in
theorem lc_step (hh : List (Nat × Nat × Nat × Nat)) (Sc : mx_Sc) (hS : mx_hS Sc) (bc bs : Nat) (G : mx_G) (I : mx_I) (a m o : Nat) (z : Zs) (i : Nat) (hi : i + 5 ≤ Sc.2.1) (hL : Sc.2.1 ≤ 2560) (hw : LW G I a m o z) (Q : Option Value → mx_G → mx_I → Prop) (X : String → mx_G → mx_I → Prop) (K : ∀ G' I' z', LW G' I' a m o z' → mx_V (mL_law hh) Sc 10 bc bs 1974 [some (.ref Sc.1), some (.ref a), some (.ref m), some (.ref o), some (.int (nI i)), none, none] [] G' I' Q X) : mx_V (mL_law hh) Sc 10 (bc + 10) (bs + 110) 374 [some (.ref Sc.1), some (.ref a), some (.ref m), some (.ref o), some (.int (nI i)), none, none] [] G I Q X := by
  refine mx_wk (bc' := bc + 2) (bs' := bs + 12) (by omega) (by omega) ?_
  obtain ⟨hW, hM, hz, ham, to, lo⟩ := id hw
  have tg9 : mx_tg G a = 19 := hW.1.1.1
  have tgm : mx_tg G m = 20 := hM.1.1
  obtain ⟨s1, es1⟩ : ∃ s1, Sc.2.2 (i + 1) = s1 := ⟨_, rfl⟩
  obtain ⟨s2, es2⟩ : ∃ s2, Sc.2.2 (i + 2) = s2 := ⟨_, rfl⟩
  obtain ⟨s3, es3⟩ : ∃ s3, Sc.2.2 (i + 3) = s3 := ⟨_, rfl⟩
  obtain ⟨s4, es4⟩ : ∃ s4, Sc.2.2 (i + 4) = s4 := ⟨_, rfl⟩
  refine mx_aload_n (i := 1) (hi := rfl) (hl := rfl) (hd := dL_law_374) ?_
  refine mx_aload_n (i := 0) (hi := rfl) (hl := rfl) (hd := dL_law_375) ?_
  refine mx_iload (i := 4) (hl := rfl) (hd := dL_law_376) ?_
  refine mx_iconstN 1 dL_law_378 (by decide) ?_
  refine mx_iaddN dL_law_379 ?_
  refine mx_scld (i + 1) hS dL_law_380 ⟨rfl, by omega, by omega⟩ ?_
  refine mx_top (y := s1) es1 ?_
  refine mx_aload_n (i := 0) (hi := rfl) (hl := rfl) (hd := dL_law_381) ?_
  refine mx_iload (i := 4) (hl := rfl) (hd := dL_law_382) ?_
  refine mx_iconstN 2 dL_law_384 (by decide) ?_
  refine mx_iaddN dL_law_385 ?_
  refine mx_scld (i + 2) hS dL_law_386 ⟨rfl, by omega, by omega⟩ ?_
  refine mx_top (y := s2) es2 ?_
  refine mx_aload_n (i := 3) (hi := rfl) (hl := rfl) (hd := dL_law_387) ?_
  refine mx_callSW (As := [.ref a, .int s1, .int s2, .ref o]) (rest := []) (b1 := 2) (b2 := 12) dL_law_388 (lw_step G I a o z hW to lo s1 s2) km_L_step rfl k_596 k_597 rfl rfl (Nat.le_of_ble_eq_true rfl) (by decide) (fun _ _ _ q => q.elim) (fun r1 G1 I1 h2 => ?_)
  have hM1 : mW G1 I1 m z := lwQ.m h2 hw
  obtain ⟨to1, lo1⟩ := lwQ.t h2 to lo
  obtain ⟨e9, hq1, hq2⟩ := h2
  subst e9
  have tgm1 : mx_tg G1 m = 20 := hM1.1.1
  refine mx_istoreE (i := 5) (ls' := [some (.ref Sc.1), some (.ref a), some (.ref m), some (.ref o), some (.int (nI i)), some (.int (nI (fl_step z s1 s2))), none]) (hd := dL_law_391) (hn := (by decide : (5 : Nat) < 7)) (hok := rfl) (hls := rfl) ?_
  refine mx_aload_n (i := 2) (hi := rfl) (hl := rfl) (hd := dL_law_393) ?_
  refine mx_aload_n (i := 0) (hi := rfl) (hl := rfl) (hd := dL_law_394) ?_
  refine mx_iload (i := 4) (hl := rfl) (hd := dL_law_395) ?_
  refine mx_iconstN 1 dL_law_397 (by decide) ?_
  refine mx_iaddN dL_law_398 ?_
  refine mx_scld (i + 1) hS dL_law_399 ⟨rfl, by omega, by omega⟩ ?_
  refine mx_top (y := s1) es1 ?_
  refine mx_aload_n (i := 0) (hi := rfl) (hl := rfl) (hd := dL_law_400) ?_
  refine mx_iload (i := 4) (hl := rfl) (hd := dL_law_401) ?_
  refine mx_iconstN 2 dL_law_403 (by decide) ?_
  refine mx_iaddN dL_law_404 ?_
  refine mx_scld (i + 2) hS dL_law_405 ⟨rfl, by omega, by omega⟩ ?_
  refine mx_top (y := s2) es2 ?_
  refine mx_callVi (ci := 10) (As := [.int s1, .int s2]) (rest := []) dL_law_406 (mt_step G1 I1 m z hM1 s1 s2) km_X10_step rfl k_1231 k_1232 k_1233 (by assumption) rfl rfl (Nat.le_of_ble_eq_true rfl) (by decide) (fun r3 I2 h4 => ?_)
  obtain ⟨hr0, hfr, hy, hn⟩ := h4
  by_cases hk0 : fl_step z s1 s2 = 0
  · obtain ⟨e9, hW2⟩ := hy hk0
    subst e9
    have f0 : fl_step z s1 s2 = 0 := mz_step z s1 s2 hk0
    refine mx_istoreE (i := 6) (ls' := [some (.ref Sc.1), some (.ref a), some (.ref m), some (.ref o), some (.int (nI i)), some (.int (nI (fl_step z s1 s2))), some (.int (nI (an_step z s1.toInt.toNat s2.toInt.toNat)))]) (hd := dL_law_409) (hn := (by decide : (6 : Nat) < 7)) (hok := rfl) (hls := rfl) ?_
    refine mx_aload_n (i := 2) (hi := rfl) (hl := rfl) (hd := dL_law_411) ?_
    refine mx_callVp (ci := 10) (As := []) (rest := []) dL_law_412 (mt_thrown G1 I2 m hW2.1) km_X10_thrown rfl k_1110 k_1111 k_1112 (by assumption) rfl rfl (Nat.le_of_ble_eq_true rfl) (by decide) ?_
    refine mx_top (y := nI (fl_step z s1 s2)) (hr0) ?_
    refine mx_iload (i := 5) (hl := rfl) (hd := dL_law_415) ?_
    refine mx_icmp_eq (tgt := 422) dL_law_417 (by decide) (fun c417 => ?_) (fun c417 => ?_)
    · skip
      refine mx_iload (i := 5) (hl := rfl) (hd := dL_law_422) ?_
      refine mx_if_ne (tgt := 439) dL_law_424 (by decide) (fun c424 => ?_) (fun c424 => ?_)
      · skip
        exact absurd (show nI (fl_step z s1 s2) = 0 by rw [hk0]; rfl) c424
      · skip
        
        refine mx_aload_n (i := 3) (hi := rfl) (hl := rfl) (hd := dL_law_427) ?_
        refine mx_iconstN 0 dL_law_428 (by decide) ?_
        refine mx_lald 0 dL_law_429 (by assumption) ⟨rfl, by omega, by omega⟩ ?_
        refine mx_topl (y := (nI (an_step z s1.toInt.toNat s2.toInt.toNat)).toInt64) ((hq1 hk0).2) ?_
        refine mx_iload (i := 6) (hl := rfl) (hd := dL_law_430) ?_
        refine mx_i2l (hv := rfl) (hd := dL_law_432) ?_
        refine mx_lcmp dL_law_433 ?_
        refine mx_if_eq (tgt := 439) dL_law_434 (by decide) (fun c434 => ?_) (fun c434 => ?_)
        · skip
          refine mx_goto (tgt := 1974) dL_law_439 (by decide) ?_
          refine mx_leS (ls' := [some (.ref Sc.1), some (.ref a), some (.ref m), some (.ref o), some (.int (nI i)), none, none]) ⟨rfl, rfl, rfl, rfl, rfl, trivial⟩ ?_
          exact K _ _ _ (hw.go (hq1 hk0).1 hW2 hfr (hz))
        · skip
          exact absurd (lgc_self _) c434
    · skip
      exact absurd rfl c417
  · obtain ⟨⟨w9, e9⟩, hW2⟩ := hn hk0
    subst e9
    refine mx_istoreE (i := 6) (ls' := [some (.ref Sc.1), some (.ref a), some (.ref m), some (.ref o), some (.int (nI i)), some (.int (nI (fl_step z s1 s2))), some (.int w9)]) (hd := dL_law_409) (hn := (by decide : (6 : Nat) < 7)) (hok := rfl) (hls := rfl) ?_
    refine mx_aload_n (i := 2) (hi := rfl) (hl := rfl) (hd := dL_law_411) ?_
    refine mx_callVp (ci := 10) (As := []) (rest := []) dL_law_412 (mt_thrown G1 I2 m hW2.1) km_X10_thrown rfl k_1110 k_1111 k_1112 (by assumption) rfl rfl (Nat.le_of_ble_eq_true rfl) (by decide) ?_
    refine mx_top (y := nI (fl_step z s1 s2)) (hr0) ?_
    refine mx_iload (i := 5) (hl := rfl) (hd := dL_law_415) ?_
    refine mx_icmp_eq (tgt := 422) dL_law_417 (by decide) (fun c417 => ?_) (fun c417 => ?_)
    · skip
      refine mx_iload (i := 5) (hl := rfl) (hd := dL_law_422) ?_
      refine mx_if_ne (tgt := 439) dL_law_424 (by decide) (fun c424 => ?_) (fun c424 => ?_)
      · skip
        
        refine mx_goto (tgt := 1974) dL_law_439 (by decide) ?_
        refine mx_leS (ls' := [some (.ref Sc.1), some (.ref a), some (.ref m), some (.ref o), some (.int (nI i)), none, none]) ⟨rfl, rfl, rfl, rfl, rfl, trivial⟩ ?_
        exact K _ _ _ (hw.go (hq2 hk0) hW2 hfr hz)
      · skip
        exact absurd ((nI_eq (mb_step z s1 s2) (by decide)).mp c424) hk0
    · skip
      exact absurd rfl c417

theorem mb_person (z : Zs) (p : Int32) (w : Int32) : fl_person z p w < 2 ^ 31 := by
  have h1 := rg_person z p w
  first | omega | (rcases h1 with e | e | e <;> (rw [e]; decide))
set_option maxHeartbeats 400000 in
set_option maxRecDepth 100000 in
theorem lc_person (hh : List (Nat × Nat × Nat × Nat)) (Sc : mx_Sc) (hS : mx_hS Sc) (bc bs : Nat) (G : mx_G) (I : mx_I) (a m o : Nat) (z : Zs) (i : Nat) (hi : i + 5 ≤ Sc.2.1) (hL : Sc.2.1 ≤ 2560) (hw : LW G I a m o z) (Q : Option Value → mx_G → mx_I → Prop) (X : String → mx_G → mx_I → Prop) (K : ∀ G' I' z', LW G' I' a m o z' → mx_V (mL_law hh) Sc 10 bc bs 1974 [some (.ref Sc.1), some (.ref a), some (.ref m), some (.ref o), some (.int (nI i)), none, none] [] G' I' Q X) : mx_V (mL_law hh) Sc 10 (bc + 10) (bs + 110) 442 [some (.ref Sc.1), some (.ref a), some (.ref m), some (.ref o), some (.int (nI i)), none, none] [] G I Q X := by
  refine mx_wk (bc' := bc + 2) (bs' := bs + 12) (by omega) (by omega) ?_
  obtain ⟨hW, hM, hz, ham, to, lo⟩ := id hw
  have tg9 : mx_tg G a = 19 := hW.1.1.1
  have tgm : mx_tg G m = 20 := hM.1.1
  obtain ⟨s1, es1⟩ : ∃ s1, Sc.2.2 (i + 1) = s1 := ⟨_, rfl⟩
  obtain ⟨s2, es2⟩ : ∃ s2, Sc.2.2 (i + 2) = s2 := ⟨_, rfl⟩
  obtain ⟨s3, es3⟩ : ∃ s3, Sc.2.2 (i + 3) = s3 := ⟨_, rfl⟩
  obtain ⟨s4, es4⟩ : ∃ s4, Sc.2.2 (i + 4) = s4 := ⟨_, rfl⟩
  refine mx_aload_n (i := 1) (hi := rfl) (hl := rfl) (hd := dL_law_442) ?_
  refine mx_aload_n (i := 0) (hi := rfl) (hl := rfl) (hd := dL_law_443) ?_
  refine mx_iload (i := 4) (hl := rfl) (hd := dL_law_444) ?_
  refine mx_iconstN 1 dL_law_446 (by decide) ?_
  refine mx_iaddN dL_law_447 ?_
  refine mx_scld (i + 1) hS dL_law_448 ⟨rfl, by omega, by omega⟩ ?_
  refine mx_top (y := s1) es1 ?_
  refine mx_aload_n (i := 0) (hi := rfl) (hl := rfl) (hd := dL_law_449) ?_
  refine mx_iload (i := 4) (hl := rfl) (hd := dL_law_450) ?_
  refine mx_iconstN 2 dL_law_452 (by decide) ?_
  refine mx_iaddN dL_law_453 ?_
  refine mx_scld (i + 2) hS dL_law_454 ⟨rfl, by omega, by omega⟩ ?_
  refine mx_top (y := s2) es2 ?_
  refine mx_aload_n (i := 3) (hi := rfl) (hl := rfl) (hd := dL_law_455) ?_
  refine mx_callSW (As := [.ref a, .int s1, .int s2, .ref o]) (rest := []) (b1 := 2) (b2 := 12) dL_law_456 (lw_person G I a o z hW to lo s1 s2) km_L_person rfl k_608 k_609 rfl rfl (Nat.le_of_ble_eq_true rfl) (by decide) (fun _ _ _ q => q.elim) (fun r1 G1 I1 h2 => ?_)
  have hM1 : mW G1 I1 m z := lwQ.m h2 hw
  obtain ⟨to1, lo1⟩ := lwQ.t h2 to lo
  obtain ⟨e9, hq1, hq2⟩ := h2
  subst e9
  have tgm1 : mx_tg G1 m = 20 := hM1.1.1
  refine mx_istoreE (i := 5) (ls' := [some (.ref Sc.1), some (.ref a), some (.ref m), some (.ref o), some (.int (nI i)), some (.int (nI (fl_person z s1 s2))), none]) (hd := dL_law_459) (hn := (by decide : (5 : Nat) < 7)) (hok := rfl) (hls := rfl) ?_
  refine mx_aload_n (i := 2) (hi := rfl) (hl := rfl) (hd := dL_law_461) ?_
  refine mx_aload_n (i := 0) (hi := rfl) (hl := rfl) (hd := dL_law_462) ?_
  refine mx_iload (i := 4) (hl := rfl) (hd := dL_law_463) ?_
  refine mx_iconstN 1 dL_law_465 (by decide) ?_
  refine mx_iaddN dL_law_466 ?_
  refine mx_scld (i + 1) hS dL_law_467 ⟨rfl, by omega, by omega⟩ ?_
  refine mx_top (y := s1) es1 ?_
  refine mx_aload_n (i := 0) (hi := rfl) (hl := rfl) (hd := dL_law_468) ?_
  refine mx_iload (i := 4) (hl := rfl) (hd := dL_law_469) ?_
  refine mx_iconstN 2 dL_law_471 (by decide) ?_
  refine mx_iaddN dL_law_472 ?_
  refine mx_scld (i + 2) hS dL_law_473 ⟨rfl, by omega, by omega⟩ ?_
  refine mx_top (y := s2) es2 ?_
  refine mx_callVi (ci := 10) (As := [.int s1, .int s2]) (rest := []) dL_law_474 (mt_person G1 I1 m z hM1 s1 s2) km_X10_person rfl k_1239 k_1240 k_1241 (by assumption) rfl rfl (Nat.le_of_ble_eq_true rfl) (by decide) (fun r3 I2 h4 => ?_)
  obtain ⟨hr0, hfr, hy, hn⟩ := h4
  by_cases hk0 : fl_person z s1 s2 = 0
  · obtain ⟨e9, hW2⟩ := hy hk0
    have hv := vG_of hW hz
    rw [show nI (am_person z s1.toInt.toNat s2.toInt.toNat) = nI (an_person z s1.toInt.toNat s2.toInt.toNat) from (congrArg nI (eq_person hv (tn_lt (fl_person_0 hk0).1) (by have := (fl_person_0 hk0).2; omega))).symm] at e9
    subst e9
    have f0 : fl_person z s1 s2 = 0 := mz_person z s1 s2 hk0
    refine mx_istoreE (i := 6) (ls' := [some (.ref Sc.1), some (.ref a), some (.ref m), some (.ref o), some (.int (nI i)), some (.int (nI (fl_person z s1 s2))), some (.int (nI (an_person z s1.toInt.toNat s2.toInt.toNat)))]) (hd := dL_law_477) (hn := (by decide : (6 : Nat) < 7)) (hok := rfl) (hls := rfl) ?_
    refine mx_aload_n (i := 2) (hi := rfl) (hl := rfl) (hd := dL_law_479) ?_
    refine mx_callVp (ci := 10) (As := []) (rest := []) dL_law_480 (mt_thrown G1 I2 m hW2.1) km_X10_thrown rfl k_1110 k_1111 k_1112 (by assumption) rfl rfl (Nat.le_of_ble_eq_true rfl) (by decide) ?_
    refine mx_top (y := nI (fl_person z s1 s2)) (hr0) ?_
    refine mx_iload (i := 5) (hl := rfl) (hd := dL_law_483) ?_
    refine mx_icmp_eq (tgt := 490) dL_law_485 (by decide) (fun c485 => ?_) (fun c485 => ?_)
    · skip
      refine mx_iload (i := 5) (hl := rfl) (hd := dL_law_490) ?_
      refine mx_if_ne (tgt := 507) dL_law_492 (by decide) (fun c492 => ?_) (fun c492 => ?_)
      · skip
        exact absurd (show nI (fl_person z s1 s2) = 0 by rw [hk0]; rfl) c492
      · skip
        
        refine mx_aload_n (i := 3) (hi := rfl) (hl := rfl) (hd := dL_law_495) ?_
        refine mx_iconstN 0 dL_law_496 (by decide) ?_
        refine mx_lald 0 dL_law_497 (by assumption) ⟨rfl, by omega, by omega⟩ ?_
        refine mx_topl (y := (nI (an_person z s1.toInt.toNat s2.toInt.toNat)).toInt64) ((hq1 hk0).2) ?_
        refine mx_iload (i := 6) (hl := rfl) (hd := dL_law_498) ?_
        refine mx_i2l (hv := rfl) (hd := dL_law_500) ?_
        refine mx_lcmp dL_law_501 ?_
        refine mx_if_eq (tgt := 507) dL_law_502 (by decide) (fun c502 => ?_) (fun c502 => ?_)
        · skip
          refine mx_goto (tgt := 1974) dL_law_507 (by decide) ?_
          refine mx_leS (ls' := [some (.ref Sc.1), some (.ref a), some (.ref m), some (.ref o), some (.int (nI i)), none, none]) ⟨rfl, rfl, rfl, rfl, rfl, trivial⟩ ?_
          exact K _ _ _ (hw.go (hq1 hk0).1 hW2 hfr (hz))
        · skip
          exact absurd (lgc_self _) c502
    · skip
      exact absurd rfl c485
  · obtain ⟨⟨w9, e9⟩, hW2⟩ := hn hk0
    subst e9
    refine mx_istoreE (i := 6) (ls' := [some (.ref Sc.1), some (.ref a), some (.ref m), some (.ref o), some (.int (nI i)), some (.int (nI (fl_person z s1 s2))), some (.int w9)]) (hd := dL_law_477) (hn := (by decide : (6 : Nat) < 7)) (hok := rfl) (hls := rfl) ?_
    refine mx_aload_n (i := 2) (hi := rfl) (hl := rfl) (hd := dL_law_479) ?_
    refine mx_callVp (ci := 10) (As := []) (rest := []) dL_law_480 (mt_thrown G1 I2 m hW2.1) km_X10_thrown rfl k_1110 k_1111 k_1112 (by assumption) rfl rfl (Nat.le_of_ble_eq_true rfl) (by decide) ?_
    refine mx_top (y := nI (fl_person z s1 s2)) (hr0) ?_
    refine mx_iload (i := 5) (hl := rfl) (hd := dL_law_483) ?_
    refine mx_icmp_eq (tgt := 490) dL_law_485 (by decide) (fun c485 => ?_) (fun c485 => ?_)
    · skip
      refine mx_iload (i := 5) (hl := rfl) (hd := dL_law_490) ?_
      refine mx_if_ne (tgt := 507) dL_law_492 (by decide) (fun c492 => ?_) (fun c492 => ?_)
      · skip
        
        refine mx_goto (tgt := 1974) dL_law_507 (by decide) ?_
        refine mx_leS (ls' := [some (.ref Sc.1), some (.ref a), some (.ref m), some (.ref o), some (.int (nI i)), none, none]) ⟨rfl, rfl, rfl, rfl, rfl, trivial⟩ ?_
        exact K _ _ _ (hw.go (hq2 hk0) hW2 hfr hz)
      · skip
        exact absurd ((nI_eq (mb_person z s1 s2) (by decide)).mp c492) hk0
    · skip
      exact absurd rfl c485

theorem mb_find (z : Zs) (p : Int32) (k : Int32) (q : Int32) : fl_find z p k q < 2 ^ 31 := by
  have h1 := rg_find z p k q
  first | omega | (rcases h1 with e | e | e <;> (rw [e]; decide))
set_option maxHeartbeats 400000 in
set_option maxRecDepth 100000 in
theorem lc_find (hh : List (Nat × Nat × Nat × Nat)) (Sc : mx_Sc) (hS : mx_hS Sc) (bc bs : Nat) (G : mx_G) (I : mx_I) (a m o : Nat) (z : Zs) (i : Nat) (hi : i + 5 ≤ Sc.2.1) (hL : Sc.2.1 ≤ 2560) (hw : LW G I a m o z) (Q : Option Value → mx_G → mx_I → Prop) (X : String → mx_G → mx_I → Prop) (K : ∀ G' I' z', LW G' I' a m o z' → mx_V (mL_law hh) Sc 10 bc bs 1974 [some (.ref Sc.1), some (.ref a), some (.ref m), some (.ref o), some (.int (nI i)), none, none] [] G' I' Q X) : mx_V (mL_law hh) Sc 10 (bc + 10) (bs + 110) 510 [some (.ref Sc.1), some (.ref a), some (.ref m), some (.ref o), some (.int (nI i)), none, none] [] G I Q X := by
  refine mx_wk (bc' := bc + 2) (bs' := bs + 12) (by omega) (by omega) ?_
  obtain ⟨hW, hM, hz, ham, to, lo⟩ := id hw
  have tg9 : mx_tg G a = 19 := hW.1.1.1
  have tgm : mx_tg G m = 20 := hM.1.1
  obtain ⟨s1, es1⟩ : ∃ s1, Sc.2.2 (i + 1) = s1 := ⟨_, rfl⟩
  obtain ⟨s2, es2⟩ : ∃ s2, Sc.2.2 (i + 2) = s2 := ⟨_, rfl⟩
  obtain ⟨s3, es3⟩ : ∃ s3, Sc.2.2 (i + 3) = s3 := ⟨_, rfl⟩
  obtain ⟨s4, es4⟩ : ∃ s4, Sc.2.2 (i + 4) = s4 := ⟨_, rfl⟩
  refine mx_aload_n (i := 1) (hi := rfl) (hl := rfl) (hd := dL_law_510) ?_
  refine mx_aload_n (i := 0) (hi := rfl) (hl := rfl) (hd := dL_law_511) ?_
  refine mx_iload (i := 4) (hl := rfl) (hd := dL_law_512) ?_
  refine mx_iconstN 1 dL_law_514 (by decide) ?_
  refine mx_iaddN dL_law_515 ?_
  refine mx_scld (i + 1) hS dL_law_516 ⟨rfl, by omega, by omega⟩ ?_
  refine mx_top (y := s1) es1 ?_
  refine mx_aload_n (i := 0) (hi := rfl) (hl := rfl) (hd := dL_law_517) ?_
  refine mx_iload (i := 4) (hl := rfl) (hd := dL_law_518) ?_
  refine mx_iconstN 2 dL_law_520 (by decide) ?_
  refine mx_iaddN dL_law_521 ?_
  refine mx_scld (i + 2) hS dL_law_522 ⟨rfl, by omega, by omega⟩ ?_
  refine mx_top (y := s2) es2 ?_
  refine mx_aload_n (i := 0) (hi := rfl) (hl := rfl) (hd := dL_law_523) ?_
  refine mx_iload (i := 4) (hl := rfl) (hd := dL_law_524) ?_
  refine mx_iconstN 3 dL_law_526 (by decide) ?_
  refine mx_iaddN dL_law_527 ?_
  refine mx_scld (i + 3) hS dL_law_528 ⟨rfl, by omega, by omega⟩ ?_
  refine mx_top (y := s3) es3 ?_
  refine mx_aload_n (i := 3) (hi := rfl) (hl := rfl) (hd := dL_law_529) ?_
  refine mx_callSW (As := [.ref a, .int s1, .int s2, .int s3, .ref o]) (rest := []) (b1 := 2) (b2 := 12) dL_law_530 (lw_find G I a o z hW to lo s1 s2 s3) km_L_find rfl k_632 k_633 rfl rfl (Nat.le_of_ble_eq_true rfl) (by decide) (fun _ _ _ q => q.elim) (fun r1 G1 I1 h2 => ?_)
  have hM1 : mW G1 I1 m z := lwQ.m h2 hw
  obtain ⟨to1, lo1⟩ := lwQ.t h2 to lo
  obtain ⟨e9, hq1, hq2⟩ := h2
  subst e9
  have tgm1 : mx_tg G1 m = 20 := hM1.1.1
  refine mx_istoreE (i := 5) (ls' := [some (.ref Sc.1), some (.ref a), some (.ref m), some (.ref o), some (.int (nI i)), some (.int (nI (fl_find z s1 s2 s3))), none]) (hd := dL_law_533) (hn := (by decide : (5 : Nat) < 7)) (hok := rfl) (hls := rfl) ?_
  refine mx_aload_n (i := 2) (hi := rfl) (hl := rfl) (hd := dL_law_535) ?_
  refine mx_aload_n (i := 0) (hi := rfl) (hl := rfl) (hd := dL_law_536) ?_
  refine mx_iload (i := 4) (hl := rfl) (hd := dL_law_537) ?_
  refine mx_iconstN 1 dL_law_539 (by decide) ?_
  refine mx_iaddN dL_law_540 ?_
  refine mx_scld (i + 1) hS dL_law_541 ⟨rfl, by omega, by omega⟩ ?_
  refine mx_top (y := s1) es1 ?_
  refine mx_aload_n (i := 0) (hi := rfl) (hl := rfl) (hd := dL_law_542) ?_
  refine mx_iload (i := 4) (hl := rfl) (hd := dL_law_543) ?_
  refine mx_iconstN 2 dL_law_545 (by decide) ?_
  refine mx_iaddN dL_law_546 ?_
  refine mx_scld (i + 2) hS dL_law_547 ⟨rfl, by omega, by omega⟩ ?_
  refine mx_top (y := s2) es2 ?_
  refine mx_aload_n (i := 0) (hi := rfl) (hl := rfl) (hd := dL_law_548) ?_
  refine mx_iload (i := 4) (hl := rfl) (hd := dL_law_549) ?_
  refine mx_iconstN 3 dL_law_551 (by decide) ?_
  refine mx_iaddN dL_law_552 ?_
  refine mx_scld (i + 3) hS dL_law_553 ⟨rfl, by omega, by omega⟩ ?_
  refine mx_top (y := s3) es3 ?_
  refine mx_callVi (ci := 10) (As := [.int s1, .int s2, .int s3]) (rest := []) dL_law_554 (mt_find G1 I1 m z hM1 s1 s2 s3) km_X10_find rfl k_1254 k_1255 k_1256 (by assumption) rfl rfl (Nat.le_of_ble_eq_true rfl) (by decide) (fun r3 I2 h4 => ?_)
  obtain ⟨hr0, hfr, hy, hn⟩ := h4
  by_cases hk0 : fl_find z s1 s2 s3 = 0
  · obtain ⟨e9, hW2⟩ := hy hk0
    subst e9
    have f0 : fl_find z s1 s2 s3 = 0 := mz_find z s1 s2 s3 hk0
    refine mx_istoreE (i := 6) (ls' := [some (.ref Sc.1), some (.ref a), some (.ref m), some (.ref o), some (.int (nI i)), some (.int (nI (fl_find z s1 s2 s3))), some (.int (oI (an_find z s1.toInt.toNat s2.toInt.toNat s3.toInt.toNat)))]) (hd := dL_law_557) (hn := (by decide : (6 : Nat) < 7)) (hok := rfl) (hls := rfl) ?_
    refine mx_aload_n (i := 2) (hi := rfl) (hl := rfl) (hd := dL_law_559) ?_
    refine mx_callVp (ci := 10) (As := []) (rest := []) dL_law_560 (mt_thrown G1 I2 m hW2.1) km_X10_thrown rfl k_1110 k_1111 k_1112 (by assumption) rfl rfl (Nat.le_of_ble_eq_true rfl) (by decide) ?_
    refine mx_top (y := nI (fl_find z s1 s2 s3)) (hr0) ?_
    refine mx_iload (i := 5) (hl := rfl) (hd := dL_law_563) ?_
    refine mx_icmp_eq (tgt := 570) dL_law_565 (by decide) (fun c565 => ?_) (fun c565 => ?_)
    · skip
      refine mx_iload (i := 5) (hl := rfl) (hd := dL_law_570) ?_
      refine mx_if_ne (tgt := 587) dL_law_572 (by decide) (fun c572 => ?_) (fun c572 => ?_)
      · skip
        exact absurd (show nI (fl_find z s1 s2 s3) = 0 by rw [hk0]; rfl) c572
      · skip
        
        refine mx_aload_n (i := 3) (hi := rfl) (hl := rfl) (hd := dL_law_575) ?_
        refine mx_iconstN 0 dL_law_576 (by decide) ?_
        refine mx_lald 0 dL_law_577 (by assumption) ⟨rfl, by omega, by omega⟩ ?_
        refine mx_topl (y := (oI (an_find z s1.toInt.toNat s2.toInt.toNat s3.toInt.toNat)).toInt64) ((hq1 hk0).2) ?_
        refine mx_iload (i := 6) (hl := rfl) (hd := dL_law_578) ?_
        refine mx_i2l (hv := rfl) (hd := dL_law_580) ?_
        refine mx_lcmp dL_law_581 ?_
        refine mx_if_eq (tgt := 587) dL_law_582 (by decide) (fun c582 => ?_) (fun c582 => ?_)
        · skip
          refine mx_goto (tgt := 1974) dL_law_587 (by decide) ?_
          refine mx_leS (ls' := [some (.ref Sc.1), some (.ref a), some (.ref m), some (.ref o), some (.int (nI i)), none, none]) ⟨rfl, rfl, rfl, rfl, rfl, trivial⟩ ?_
          exact K _ _ _ (hw.go (hq1 hk0).1 hW2 hfr (hz))
        · skip
          exact absurd (lgc_self _) c582
    · skip
      exact absurd rfl c565
  · obtain ⟨⟨w9, e9⟩, hW2⟩ := hn hk0
    subst e9
    refine mx_istoreE (i := 6) (ls' := [some (.ref Sc.1), some (.ref a), some (.ref m), some (.ref o), some (.int (nI i)), some (.int (nI (fl_find z s1 s2 s3))), some (.int w9)]) (hd := dL_law_557) (hn := (by decide : (6 : Nat) < 7)) (hok := rfl) (hls := rfl) ?_
    refine mx_aload_n (i := 2) (hi := rfl) (hl := rfl) (hd := dL_law_559) ?_
    refine mx_callVp (ci := 10) (As := []) (rest := []) dL_law_560 (mt_thrown G1 I2 m hW2.1) km_X10_thrown rfl k_1110 k_1111 k_1112 (by assumption) rfl rfl (Nat.le_of_ble_eq_true rfl) (by decide) ?_
    refine mx_top (y := nI (fl_find z s1 s2 s3)) (hr0) ?_
    refine mx_iload (i := 5) (hl := rfl) (hd := dL_law_563) ?_
    refine mx_icmp_eq (tgt := 570) dL_law_565 (by decide) (fun c565 => ?_) (fun c565 => ?_)
    · skip
      refine mx_iload (i := 5) (hl := rfl) (hd := dL_law_570) ?_
      refine mx_if_ne (tgt := 587) dL_law_572 (by decide) (fun c572 => ?_) (fun c572 => ?_)
      · skip
        
        refine mx_goto (tgt := 1974) dL_law_587 (by decide) ?_
        refine mx_leS (ls' := [some (.ref Sc.1), some (.ref a), some (.ref m), some (.ref o), some (.int (nI i)), none, none]) ⟨rfl, rfl, rfl, rfl, rfl, trivial⟩ ?_
        exact K _ _ _ (hw.go (hq2 hk0) hW2 hfr hz)
      · skip
        exact absurd ((nI_eq (mb_find z s1 s2 s3) (by decide)).mp c572) hk0
    · skip
      exact absurd rfl c565

theorem mb_patternAt (z : Zs) (j : Int32) : fl_patternAt j - 1 < 2 ^ 31 := by
  have h1 := rg_patternAt z j
  first | omega | (rcases h1 with e | e | e <;> (rw [e]; decide))
set_option maxHeartbeats 400000 in
set_option maxRecDepth 100000 in
theorem lc_patternAt (hh : List (Nat × Nat × Nat × Nat)) (Sc : mx_Sc) (hS : mx_hS Sc) (bc bs : Nat) (G : mx_G) (I : mx_I) (a m o : Nat) (z : Zs) (i : Nat) (hi : i + 5 ≤ Sc.2.1) (hL : Sc.2.1 ≤ 2560) (hw : LW G I a m o z) (Q : Option Value → mx_G → mx_I → Prop) (X : String → mx_G → mx_I → Prop) (K : ∀ G' I' z', LW G' I' a m o z' → mx_V (mL_law hh) Sc 10 bc bs 1974 [some (.ref Sc.1), some (.ref a), some (.ref m), some (.ref o), some (.int (nI i)), none, none] [] G' I' Q X) : mx_V (mL_law hh) Sc 10 (bc + 10) (bs + 110) 590 [some (.ref Sc.1), some (.ref a), some (.ref m), some (.ref o), some (.int (nI i)), none, none] [] G I Q X := by
  refine mx_wk (bc' := bc + 1) (bs' := bs + 6) (by omega) (by omega) ?_
  obtain ⟨hW, hM, hz, ham, to, lo⟩ := id hw
  have tg9 : mx_tg G a = 19 := hW.1.1.1
  have tgm : mx_tg G m = 20 := hM.1.1
  obtain ⟨s1, es1⟩ : ∃ s1, Sc.2.2 (i + 1) = s1 := ⟨_, rfl⟩
  obtain ⟨s2, es2⟩ : ∃ s2, Sc.2.2 (i + 2) = s2 := ⟨_, rfl⟩
  obtain ⟨s3, es3⟩ : ∃ s3, Sc.2.2 (i + 3) = s3 := ⟨_, rfl⟩
  obtain ⟨s4, es4⟩ : ∃ s4, Sc.2.2 (i + 4) = s4 := ⟨_, rfl⟩
  refine mx_aload_n (i := 1) (hi := rfl) (hl := rfl) (hd := dL_law_590) ?_
  refine mx_aload_n (i := 0) (hi := rfl) (hl := rfl) (hd := dL_law_591) ?_
  refine mx_iload (i := 4) (hl := rfl) (hd := dL_law_592) ?_
  refine mx_iconstN 1 dL_law_594 (by decide) ?_
  refine mx_iaddN dL_law_595 ?_
  refine mx_scld (i + 1) hS dL_law_596 ⟨rfl, by omega, by omega⟩ ?_
  refine mx_top (y := s1) es1 ?_
  refine mx_aload_n (i := 3) (hi := rfl) (hl := rfl) (hd := dL_law_597) ?_
  refine mx_callSW (As := [.ref a, .int s1, .ref o]) (rest := []) (b1 := 1) (b2 := 6) dL_law_598 (lw_patternAt G I a o z hW to lo s1) km_L_patternAt rfl k_646 k_647 rfl rfl (Nat.le_of_ble_eq_true rfl) (by decide) (fun _ _ _ q => q.elim) (fun r1 G1 I1 h2 => ?_)
  have hM1 : mW G1 I1 m z := lwQ.m h2 hw
  obtain ⟨to1, lo1⟩ := lwQ.t h2 to lo
  obtain ⟨e9, hq1, hq2⟩ := h2
  subst e9
  have tgm1 : mx_tg G1 m = 20 := hM1.1.1
  refine mx_istoreE (i := 5) (ls' := [some (.ref Sc.1), some (.ref a), some (.ref m), some (.ref o), some (.int (nI i)), some (.int (nI (fl_patternAt s1 - 1))), none]) (hd := dL_law_601) (hn := (by decide : (5 : Nat) < 7)) (hok := rfl) (hls := rfl) ?_
  refine mx_aload_n (i := 2) (hi := rfl) (hl := rfl) (hd := dL_law_603) ?_
  refine mx_aload_n (i := 0) (hi := rfl) (hl := rfl) (hd := dL_law_604) ?_
  refine mx_iload (i := 4) (hl := rfl) (hd := dL_law_605) ?_
  refine mx_iconstN 1 dL_law_607 (by decide) ?_
  refine mx_iaddN dL_law_608 ?_
  refine mx_scld (i + 1) hS dL_law_609 ⟨rfl, by omega, by omega⟩ ?_
  refine mx_top (y := s1) es1 ?_
  refine mx_callVi (ci := 10) (As := [.int s1]) (rest := []) dL_law_610 (mt_patternAt G1 I1 m z hM1 s1) km_X10_patternAt rfl k_1258 k_1259 k_1260 (by assumption) rfl rfl (Nat.le_of_ble_eq_true rfl) (by decide) (fun r3 I2 h4 => ?_)
  obtain ⟨hr0, hfr, hy, hn⟩ := h4
  by_cases hk0 : fl_patternAt s1 - 1 = 0
  · obtain ⟨e9, hW2⟩ := hy hk0
    subst e9
    have f0 : fl_patternAt s1 = 0 := mz_patternAt z s1 hk0
    refine mx_istoreE (i := 6) (ls' := [some (.ref Sc.1), some (.ref a), some (.ref m), some (.ref o), some (.int (nI i)), some (.int (nI (fl_patternAt s1 - 1))), some (.int (an_patternAt z s1.toInt.toNat))]) (hd := dL_law_613) (hn := (by decide : (6 : Nat) < 7)) (hok := rfl) (hls := rfl) ?_
    refine mx_aload_n (i := 2) (hi := rfl) (hl := rfl) (hd := dL_law_615) ?_
    refine mx_callVp (ci := 10) (As := []) (rest := []) dL_law_616 (mt_thrown G1 I2 m hW2.1) km_X10_thrown rfl k_1110 k_1111 k_1112 (by assumption) rfl rfl (Nat.le_of_ble_eq_true rfl) (by decide) ?_
    refine mx_top (y := nI (fl_patternAt s1 - 1)) (hr0) ?_
    refine mx_iload (i := 5) (hl := rfl) (hd := dL_law_619) ?_
    refine mx_icmp_eq (tgt := 626) dL_law_621 (by decide) (fun c621 => ?_) (fun c621 => ?_)
    · skip
      refine mx_iload (i := 5) (hl := rfl) (hd := dL_law_626) ?_
      refine mx_if_ne (tgt := 643) dL_law_628 (by decide) (fun c628 => ?_) (fun c628 => ?_)
      · skip
        exact absurd (show nI (fl_patternAt s1 - 1) = 0 by rw [hk0]; rfl) c628
      · skip
        
        refine mx_aload_n (i := 3) (hi := rfl) (hl := rfl) (hd := dL_law_631) ?_
        refine mx_iconstN 0 dL_law_632 (by decide) ?_
        refine mx_lald 0 dL_law_633 (by assumption) ⟨rfl, by omega, by omega⟩ ?_
        refine mx_topl (y := (an_patternAt z s1.toInt.toNat).toInt64) ((hq1 hk0).2) ?_
        refine mx_iload (i := 6) (hl := rfl) (hd := dL_law_634) ?_
        refine mx_i2l (hv := rfl) (hd := dL_law_636) ?_
        refine mx_lcmp dL_law_637 ?_
        refine mx_if_eq (tgt := 643) dL_law_638 (by decide) (fun c638 => ?_) (fun c638 => ?_)
        · skip
          refine mx_goto (tgt := 1974) dL_law_643 (by decide) ?_
          refine mx_leS (ls' := [some (.ref Sc.1), some (.ref a), some (.ref m), some (.ref o), some (.int (nI i)), none, none]) ⟨rfl, rfl, rfl, rfl, rfl, trivial⟩ ?_
          exact K _ _ _ (hw.go (hq1 hk0).1 hW2 hfr (hz))
        · skip
          exact absurd (lgc_self _) c638
    · skip
      exact absurd rfl c621
  · obtain ⟨⟨w9, e9⟩, hW2⟩ := hn hk0
    subst e9
    refine mx_istoreE (i := 6) (ls' := [some (.ref Sc.1), some (.ref a), some (.ref m), some (.ref o), some (.int (nI i)), some (.int (nI (fl_patternAt s1 - 1))), some (.int w9)]) (hd := dL_law_613) (hn := (by decide : (6 : Nat) < 7)) (hok := rfl) (hls := rfl) ?_
    refine mx_aload_n (i := 2) (hi := rfl) (hl := rfl) (hd := dL_law_615) ?_
    refine mx_callVp (ci := 10) (As := []) (rest := []) dL_law_616 (mt_thrown G1 I2 m hW2.1) km_X10_thrown rfl k_1110 k_1111 k_1112 (by assumption) rfl rfl (Nat.le_of_ble_eq_true rfl) (by decide) ?_
    refine mx_top (y := nI (fl_patternAt s1 - 1)) (hr0) ?_
    refine mx_iload (i := 5) (hl := rfl) (hd := dL_law_619) ?_
    refine mx_icmp_eq (tgt := 626) dL_law_621 (by decide) (fun c621 => ?_) (fun c621 => ?_)
    · skip
      refine mx_iload (i := 5) (hl := rfl) (hd := dL_law_626) ?_
      refine mx_if_ne (tgt := 643) dL_law_628 (by decide) (fun c628 => ?_) (fun c628 => ?_)
      · skip
        
        refine mx_goto (tgt := 1974) dL_law_643 (by decide) ?_
        refine mx_leS (ls' := [some (.ref Sc.1), some (.ref a), some (.ref m), some (.ref o), some (.int (nI i)), none, none]) ⟨rfl, rfl, rfl, rfl, rfl, trivial⟩ ?_
        exact K _ _ _ (hw.go (hq2 hk0) hW2 hfr hz)
      · skip
        exact absurd ((nI_eq (mb_patternAt z s1) (by decide)).mp c628) hk0
    · skip
      exact absurd rfl c621
