/-! THE LAW: its loop, its start -/
abbrev mL_law (hh : List (Nat × Nat × Nat × Nat)) : mx_MI := (RL, cL_law, 10, ret, hh, false)
def v0 : Gr := (0, 0, fun _ => 0, fun _ => 0, fun _ => 0, fun _ => 0)
def x0 : Vl := (v0, 0, fun _ => 0)
def z0 : Zs := ((0, fun _ => 0), x0, (0, fun _ => x0), fun _ => false, fun _ => x0)
theorem ptN_0 {I : mx_I} {N : Nat} (h0 : ∀ b k, N ≤ b → b < N + 5 → ¬ (b = N ∧ k = 6) → I b k = nI 0) (h6 : I N 6 = nI 1) (ch : Nat → Nat) : ptN I N (pa0 ch) :=
  ⟨pa0_wf ch, h0 N 1 (Nat.le_refl N) (by omega) (by omega), h0 N 2 (Nat.le_refl N) (by omega) (by omega), h6, fun s hs => absurd hs (Nat.not_lt_zero s), fun s _ => h0 _ _ (by omega) (by omega) (by omega), fun s _ => h0 _ _ (by omega) (by omega) (by omega), fun s _ => h0 _ _ (by omega) (by omega) (by omega)⟩
theorem stN_0 {I : mx_I} {o : Nat} (h0 : I o 0 = nI 0) (h1 : I o 1 = nI 0) : stN I o v0 :=
  ⟨⟨Nat.zero_le _, Nat.zero_le _, fun s hs => absurd hs (Nat.not_lt_zero s)⟩, h0, h1, fun s hs => absurd hs (Nat.not_lt_zero s), fun s hs => absurd hs (Nat.not_lt_zero s), fun s hs => absurd hs (Nat.not_lt_zero s), fun s hs => absurd hs (Nat.not_lt_zero s)⟩
theorem pE_0 (ch : Nat → Nat) : pErr ch 0 = none := rfl
theorem cW_0 {G : mx_G} {I : mx_I} {a : Nat} (hz : a + 146 ≤ mx_sz G) (h1 : oSP G a) (h2 : oSP0 G a) (h0 : ∀ b k, a ≤ b → b < a + 146 → ¬ (b = a + 3 ∧ k = 6) → ¬ (b = a + 12 ∧ k = 6) → I b k = nI 0) (h6 : I (a + 3) 6 = nI 1) : cW G I a z0 := by
  have hp : ∀ ch, ptN I (a + 3) (rdF ch 0) := fun ch => by
    rw [rdF_0]
    exact ptN_0 (fun b k q1 q2 q3 => h0 b k (by omega) (by omega) q3 (by omega)) h6 ch
  refine ⟨⟨h1, hz, hp⟩, ⟨Nat.zero_le _, h0 _ _ (by omega) (by omega) (by omega) (by omega), fun s hs => absurd hs (Nat.not_lt_zero s), fun s hs => absurd hs (Nat.not_lt_zero s)⟩, ⟨stN_0 (h0 _ _ (by omega) (by omega) (by omega) (by omega)) (h0 _ _ (by omega) (by omega) (by omega) (by omega)), ⟨Nat.zero_le _, Nat.zero_le _, pE_0 _, fun i hi => absurd hi (Nat.not_lt_zero i)⟩, ?_⟩, ⟨Nat.zero_le _, 0, by decide, h0 _ _ (by omega) (by omega) (by omega) (by omega), h0 _ _ (by omega) (by omega) (by omega) (by omega), fun j hj => absurd hj (Nat.not_lt_zero j)⟩, fun s hs => ⟨h0 _ _ (by omega) (by omega) (by omega) (by omega), fun q => Bool.noConfusion q⟩⟩
  rw [h2.1]
  exact ⟨Or.inl rfl, by omega, h1.2.2.1.2, hp _⟩
theorem zJ_0 : zJ z0 := ⟨⟨fun s hs => absurd hs (Nat.not_lt_zero s), fun s hs => absurd hs (Nat.not_lt_zero s), fun s _ q => Bool.noConfusion q⟩, fun s t hs => absurd hs (Nat.not_lt_zero s), fun s hs => absurd hs (Nat.not_lt_zero s), fun s _ q => Bool.noConfusion q⟩
theorem mx_cr.sm {G G' : mx_G} {hi : Nat} (h : mx_cr G G' 0 hi) (h0 : ∀ b, hi ≤ b → mx_tg G b = 0) : mx_sm G G' := fun b hb => by
  have hlt : b < hi := (Nat.lt_or_ge b hi).elim id (fun q => absurd (h0 b q) hb)
  obtain ⟨e1, e2, e3⟩ := h b (Nat.zero_le _) hlt
  exact ⟨e1, e2, fun k _ _ => e3 k⟩

set_option maxHeartbeats 1000000 in
set_option maxRecDepth 100000 in
theorem law_loop (hh : List (Nat × Nat × Nat × Nat)) (Sc : mx_Sc) (hS : mx_hS Sc) (hL : Sc.2.1 ≤ 260) (a b : Nat) (hab : a + 146 ≤ b) : ∀ (n i : Nat) (G : mx_G) (I : mx_I) (z : Zs), 28 - i < n → i ≤ 28 → cW G I a z → cW G I b z → zJ z → mx_V (mL_law hh) Sc 12 (2500 * (28 - i)) (16000 * (28 - i)) 21 [some (.ref Sc.1), some (.ref a), some (.ref b), some (.int (nI 1)), some (.int (nI i)), none, none, none, none, none] [] G I (fun rv _ _ => rv = some (.int (nI 1))) (fun _ _ _ => False) := by
  intro n
  induction n with
  | zero => intro i G I z hn; exact absurd hn (Nat.not_lt_zero _)
  | succ n ih =>
    intro i G I z hn hi hWa hWb hJ
    refine mx_iload (i := 4) (hl := rfl) (hd := dL_law_21) ?_
    refine mx_bipushN 28 dL_law_23 (by decide) ?_
    refine mx_cmpN_ge 240 dL_law_25 (by decide) (by omega) (by decide) (fun c25 => ?_) (fun c25 => ?_)
    · skip
      refine mx_iload_n (i := 3) (hi := rfl) (hl := rfl) (hd := dL_law_240) ?_
      exact mx_iret dL_law_241 rfl (by decide) (rfl)
    · skip
      refine mx_iload_n (i := 3) (hi := rfl) (hl := rfl) (hd := dL_law_28) ?_
      refine mx_if1_eq 240 dL_law_29 (by decide) ?_
      refine mx_wk (bc' := 2500 * (28 - (i + 1)) + 2500) (bs' := 16000 * (28 - (i + 1)) + 16000) (by omega) (by omega) ?_
      refine mx_aload_n (i := 0) (hi := rfl) (hl := rfl) (hd := dL_law_32) ?_
      refine mx_iconstN 2 dL_law_33 (by decide) ?_
      refine mx_iload (i := 4) (hl := rfl) (hd := dL_law_34) ?_
      refine mx_imulN dL_law_36 ?_
      refine mx_callSs (bc := 2500 * (28 - (i + 1)) + 2500) (bs := 16000 * (28 - (i + 1)) + 16000) (As := [.ref Sc.1, .int (nI (2 * i))]) (rest := []) (b1 := 0) (b2 := 0) dL_law_37 (lk_cell Sc hS hL G I (2 * i) (by omega)) km_L_cell rfl k_656 k_657 rfl rfl (Nat.le_of_ble_eq_true rfl) (by decide) (fun _ _ _ q => q.elim) (fun r1 Gc1 Ic1 h2 => ?_)
      obtain ⟨⟨x, hx, e9⟩, eG, eI⟩ := h2
      subst e9
      have eG := eG.symm
      have eI := eI.symm
      subst eG
      subst eI
      refine mx_istoreE (i := 5) (ls' := [some (.ref Sc.1), some (.ref a), some (.ref b), some (.int (nI 1)), some (.int (nI i)), some (.int (nI x)), none, none, none, none]) (hd := dL_law_40) (hn := (by decide : (5 : Nat) < 10)) (hok := rfl) (hls := rfl) ?_
      refine mx_aload_n (i := 0) (hi := rfl) (hl := rfl) (hd := dL_law_42) ?_
      refine mx_iconstN 2 dL_law_43 (by decide) ?_
      refine mx_iload (i := 4) (hl := rfl) (hd := dL_law_44) ?_
      refine mx_imulN dL_law_46 ?_
      refine mx_iconstN 1 dL_law_47 (by decide) ?_
      refine mx_iaddN dL_law_48 ?_
      refine mx_callSs (bc := 2500 * (28 - (i + 1)) + 2500) (bs := 16000 * (28 - (i + 1)) + 16000) (As := [.ref Sc.1, .int (nI ((2 * i) + 1))]) (rest := []) (b1 := 0) (b2 := 0) dL_law_49 (lk_cell Sc hS hL G I (2 * i + 1) (by omega)) km_L_cell rfl k_656 k_657 rfl rfl (Nat.le_of_ble_eq_true rfl) (by decide) (fun _ _ _ q => q.elim) (fun r3 Gc2 Ic2 h4 => ?_)
      obtain ⟨⟨y, hy, e9⟩, eG, eI⟩ := h4
      subst e9
      have eG := eG.symm
      have eI := eI.symm
      subst eG
      subst eI
      refine mx_istoreE (i := 6) (ls' := [some (.ref Sc.1), some (.ref a), some (.ref b), some (.int (nI 1)), some (.int (nI i)), some (.int (nI x)), some (.int (nI y)), none, none, none]) (hd := dL_law_52) (hn := (by decide : (6 : Nat) < 10)) (hok := rfl) (hls := rfl) ?_
      refine mx_aload_n (i := 1) (hi := rfl) (hl := rfl) (hd := dL_law_54) ?_
      refine mx_iload (i := 5) (hl := rfl) (hd := dL_law_55) ?_
      refine mx_callS (bc := 2500 * (28 - (i + 1)) + 2380) (bs := 16000 * (28 - (i + 1)) + 15280) (As := [.ref a, .int (nI x)]) (rest := []) (b1 := 120) (b2 := 720) dL_law_57 (lr_refuses G I a z hWa x hx) km_L_refuses rfl k_661 k_662 rfl rfl (Nat.le_of_ble_eq_true rfl) (by decide) (fun _ _ _ q => q.elim) (fun r5 G3 I3 h6 => ?_)
      obtain ⟨e9, hQ3⟩ := h6
      subst e9
      have hWa3 := hQ3.1
      have hWb3 := hQ3.oth hWa.1.1 hWb (Or.inl hab)
      refine mx_if1_eq 105 dL_law_60 (by decide) ?_
      refine mx_aload_n (i := 1) (hi := rfl) (hl := rfl) (hd := dL_law_63) ?_
      refine mx_iload (i := 5) (hl := rfl) (hd := dL_law_64) ?_
      refine mx_iload (i := 6) (hl := rfl) (hd := dL_law_66) ?_
      refine mx_callS (bc := 2500 * (28 - (i + 1)) + 2358) (bs := 16000 * (28 - (i + 1)) + 15098) (As := [.ref a, .int (nI x), .int (nI y)]) (rest := []) (b1 := 22) (b2 := 182) dL_law_68 (lr_act G3 I3 a z hWa3 x y hx hy) km_L_act rfl k_997 k_998 rfl rfl (Nat.le_of_ble_eq_true rfl) (by decide) (fun _ _ _ q => q.elim) (fun r7 G4 I4 h8 => ?_)
      obtain ⟨e9, hQ4⟩ := h8
      subst e9
      have hWa4 := hQ4.1
      have hWb4 := hQ4.oth hWa3.1.1 hWb3 (Or.inl hab)
      refine mx_aload_n (i := 2) (hi := rfl) (hl := rfl) (hd := dL_law_71) ?_
      refine mx_iload (i := 5) (hl := rfl) (hd := dL_law_72) ?_
      refine mx_iload (i := 6) (hl := rfl) (hd := dL_law_74) ?_
      refine mx_callS (bc := 2500 * (28 - (i + 1)) + 2336) (bs := 16000 * (28 - (i + 1)) + 14916) (As := [.ref b, .int (nI x), .int (nI y)]) (rest := [.int ((acF z (x % 16) y).1)]) (b1 := 22) (b2 := 182) dL_law_76 (lr_act G4 I4 b z hWb4 x y hx hy) km_L_act rfl k_997 k_998 rfl rfl (Nat.le_of_ble_eq_true rfl) (by decide) (fun _ _ _ q => q.elim) (fun r9 G5 I5 h10 => ?_)
      obtain ⟨e9, hQ5⟩ := h10
      subst e9
      have hWb5 := hQ5.1
      have hWa5 := hQ5.oth hWb4.1.1 hWa4 (Or.inr hab)
      obtain ⟨z1, hz1⟩ : ∃ q, (acF z (x % 16) y).2 = q := ⟨_, rfl⟩
      rw [hz1] at hWa5 hWb5
      have hJ1 : zJ z1 := by rw [← hz1]; exact acF_J hJ _ _
      refine mx_icmp_ne (tgt := 105) dL_law_79 (by decide) (fun c79 => ?_) (fun c79 => ?_)
      · skip
        exact absurd rfl c79
      · skip
        refine mx_aload_n (i := 1) (hi := rfl) (hl := rfl) (hd := dL_law_82) ?_
        refine mx_iload (i := 6) (hl := rfl) (hd := dL_law_83) ?_
        refine mx_callS (bc := 2500 * (28 - (i + 1)) + 2216) (bs := 16000 * (28 - (i + 1)) + 14196) (As := [.ref a, .int (nI y)]) (rest := []) (b1 := 120) (b2 := 720) dL_law_85 (lr_refuses G5 I5 a z1 hWa5 y hy) km_L_refuses rfl k_661 k_662 rfl rfl (Nat.le_of_ble_eq_true rfl) (by decide) (fun _ _ _ q => q.elim) (fun r11 G6 I6 h12 => ?_)
        obtain ⟨e9, hQ6⟩ := h12
        subst e9
        have hWa6 := hQ6.1
        have hWb6 := hQ6.oth hWa5.1.1 hWb5 (Or.inl hab)
        refine mx_if1_eq 105 dL_law_88 (by decide) ?_
        refine mx_aload_n (i := 1) (hi := rfl) (hl := rfl) (hd := dL_law_91) ?_
        refine mx_aload_n (i := 2) (hi := rfl) (hl := rfl) (hd := dL_law_92) ?_
        refine mx_iload (i := 5) (hl := rfl) (hd := dL_law_93) ?_
        refine mx_callS (bc := 2500 * (28 - (i + 1)) + 2000) (bs := 16000 * (28 - (i + 1)) + 12900) (As := [.ref a, .ref b, .int (nI x)]) (rest := []) (b1 := 216) (b2 := 1296) dL_law_95 (lr_alike G6 I6 a b z1 hWa6 hWb6 hab x hx) km_L_alike rfl k_987 k_988 rfl rfl (Nat.le_of_ble_eq_true rfl) (by decide) (fun _ _ _ q => q.elim) (fun r13 G7 I7 h14 => ?_)
        obtain ⟨e9, hWa7, hWb7⟩ := h14
        subst e9
        refine mx_if1_eq 105 dL_law_98 (by decide) ?_
        refine mx_iconstN 1 dL_law_101 (by decide) ?_
        refine mx_goto (tgt := 106) dL_law_102 (by decide) ?_
        refine mx_istoreE_n (i := 3) (ls' := [some (.ref Sc.1), some (.ref a), some (.ref b), some (.int (nI 1)), some (.int (nI i)), some (.int (nI x)), some (.int (nI y)), none, none, none]) (hi := rfl) (hd := dL_law_106) (hn := (by decide : (3 : Nat) < 10)) (hok := rfl) (hls := rfl) ?_
        refine mx_iload (i := 4) (hl := rfl) (hd := dL_law_107) ?_
        refine mx_iconstN 4 dL_law_109 (by decide) ?_
        refine mx_iremN dL_law_110 (by omega) (by decide) ?_
        refine mx_iconstN 3 dL_law_111 (by decide) ?_
        refine mx_cmpN_ne 234 dL_law_112 (by decide) (by omega) (by decide) (fun c112 => ?_) (fun c112 => ?_)
        · skip
          refine mx_iincE (i := 4) (ls' := [some (.ref Sc.1), some (.ref a), some (.ref b), some (.int (nI 1)), some (.int (nI (i + 1))), some (.int (nI x)), some (.int (nI y)), none, none, none]) 1 dL_law_234 rfl (by decide) (by decide : (4 : Nat) < 10) rfl rfl ?_
          refine mx_goto (tgt := 21) dL_law_237 (by decide) ?_
          refine mx_leS (ls' := [some (.ref Sc.1), some (.ref a), some (.ref b), some (.int (nI 1)), some (.int (nI (i + 1))), none, none, none, none, none]) ⟨rfl, rfl, rfl, rfl, rfl, trivial⟩ ?_
          refine mx_wk (bc' := 2500 * (28 - (i + 1))) (bs' := 16000 * (28 - (i + 1))) (by omega) (by omega) ?_
          exact ih (i + 1) _ _ z1 (by omega) (by omega) hWa7 hWb7 hJ1
        · skip
          refine mx_iload_n (i := 3) (hi := rfl) (hl := rfl) (hd := dL_law_115) ?_
          refine mx_if1_eq 234 dL_law_116 (by decide) ?_
          have hN1 : gN (zG z1) ≤ 24 := hWa7.N24
          refine mx_aload_n (i := 1) (hi := rfl) (hl := rfl) (hd := dL_law_119) ?_
          refine mx_iload (i := 6) (hl := rfl) (hd := dL_law_120) ?_
          refine mx_callS (bc := 2500 * (28 - (i + 1)) + 1322) (bs := 16000 * (28 - (i + 1)) + 8832) (As := [.ref a, .int (nI y)]) (rest := []) (b1 := 678) (b2 := 4068) dL_law_122 (lr_holds G7 I7 a z1 hWa7 hJ1 y hy) km_L_holds rfl k_994 k_995 rfl rfl (Nat.le_of_ble_eq_true rfl) (by decide) (fun _ _ _ q => q.elim) (fun r15 G8 I8 h16 => ?_)
          obtain ⟨e9, hQ8⟩ := h16
          subst e9
          have hWa8 := hQ8.1
          have hWb8 := hQ8.oth hWa7.1.1 hWb7 (Or.inl hab)
          refine mx_if1_eq 141 dL_law_125 (by decide) ?_
          refine mx_aload_n (i := 2) (hi := rfl) (hl := rfl) (hd := dL_law_128) ?_
          refine mx_iload (i := 6) (hl := rfl) (hd := dL_law_129) ?_
          refine mx_callS (bc := 2500 * (28 - (i + 1)) + 644) (bs := 16000 * (28 - (i + 1)) + 4764) (As := [.ref b, .int (nI y)]) (rest := []) (b1 := 678) (b2 := 4068) dL_law_131 (lr_holds G8 I8 b z1 hWb8 hJ1 y hy) km_L_holds rfl k_994 k_995 rfl rfl (Nat.le_of_ble_eq_true rfl) (by decide) (fun _ _ _ q => q.elim) (fun r17 G9 I9 h18 => ?_)
          obtain ⟨e9, hQ9⟩ := h18
          subst e9
          have hWb9 := hQ9.1
          have hWa9 := hQ9.oth hWb8.1.1 hWa8 (Or.inr hab)
          obtain ⟨z2, hz2⟩ : ∃ q, hoZ z1 y = q := ⟨_, rfl⟩
          rw [hz2] at hWa9 hWb9
          have hJ2 : zJ z2 := by rw [← hz2]; exact hoZ_J hJ1 hN1 _
          refine mx_if1_eq 141 dL_law_134 (by decide) ?_
          refine mx_iconstN 1 dL_law_137 (by decide) ?_
          refine mx_goto (tgt := 142) dL_law_138 (by decide) ?_
          refine mx_istoreE_n (i := 3) (ls' := [some (.ref Sc.1), some (.ref a), some (.ref b), some (.int (nI 1)), some (.int (nI i)), some (.int (nI x)), some (.int (nI y)), none, none, none]) (hi := rfl) (hd := dL_law_142) (hn := (by decide : (3 : Nat) < 10)) (hok := rfl) (hls := rfl) ?_
          refine mx_iload (i := 5) (hl := rfl) (hd := dL_law_143) ?_
          refine mx_i2l (hv := rfl) (hd := dL_law_145) ?_
          refine mx_ldc2 (v := (3434267979)) k_1004 dL_law_146 ?_
          refine mx_lmul dL_law_149 ?_
          refine mx_ldc2 (v := (821)) k_1005 dL_law_150 ?_
          refine mx_lsub dL_law_153 ?_
          refine mx_lstoreE (i := 7) (ls' := [some (.ref Sc.1), some (.ref a), some (.ref b), some (.int (nI 1)), some (.int (nI i)), some (.int (nI x)), some (.int (nI y)), some (.long ((((nI x).toInt64) * (3434267979)) - (821))), none, none]) (hd := dL_law_154) (hn := (by decide : (7 + 1 : Nat) < 10)) (hok := rfl) (hls := rfl) ?_
          refine mx_aload_n (i := 1) (hi := rfl) (hl := rfl) (hd := dL_law_156) ?_
          refine mx_lload (i := 7) (hl := rfl) (hd := dL_law_157) ?_
          refine mx_iconstN 1 dL_law_159 (by decide) ?_
          refine mx_iload (i := 6) (hl := rfl) (hd := dL_law_160) ?_
          refine mx_iconstN 5 dL_law_162 (by decide) ?_
          refine mx_iremN dL_law_163 (by omega) (by decide) ?_
          refine mx_iaddN dL_law_164 ?_
          refine mx_callSW (bc := 2500 * (28 - (i + 1)) + 643) (bs := 16000 * (28 - (i + 1)) + 4758) (As := [.ref a, .long ((((nI x).toInt64) * (3434267979)) - (821)), .int (nI (1 + (y % 5)))]) (rest := []) (b1 := 1) (b2 := 6) dL_law_165 (lw_simulate G9 I9 a z2 hWa9 ((((nI x).toInt64) * (3434267979)) - (821)) (nI (1 + (y % 5)))) km_L_trySimulate rfl k_639 k_640 rfl rfl (Nat.le_of_ble_eq_true rfl) (by decide) (fun _ _ _ q => q.elim) (fun r19 G10 I10 h20 => ?_)
          obtain ⟨e9, hQ10⟩ := h20
          subst e9
          have hWa10 := hQ10.1
          have hWb10 := hQ10.oth hWa9.1.1 hWb9 (Or.inl hab)
          refine mx_istoreE (i := 9) (ls' := [some (.ref Sc.1), some (.ref a), some (.ref b), some (.int (nI 1)), some (.int (nI i)), some (.int (nI x)), some (.int (nI y)), some (.long ((((nI x).toInt64) * (3434267979)) - (821))), none, some (.int (tv (fl_simulate (nI (1 + (y % 5)))) (nI (an_simulate z2 ((((nI x).toInt64) * (3434267979)) - (821)) (nI (1 + (y % 5))).toInt.toNat))))]) (hd := dL_law_168) (hn := (by decide : (9 : Nat) < 10)) (hok := rfl) (hls := rfl) ?_
          refine mx_iload_n (i := 3) (hi := rfl) (hl := rfl) (hd := dL_law_170) ?_
          refine mx_if1_eq 232 dL_law_171 (by decide) ?_
          refine mx_iload (i := 9) (hl := rfl) (hd := dL_law_174) ?_
          refine mx_aload_n (i := 2) (hi := rfl) (hl := rfl) (hd := dL_law_176) ?_
          refine mx_lload (i := 7) (hl := rfl) (hd := dL_law_177) ?_
          refine mx_iconstN 1 dL_law_179 (by decide) ?_
          refine mx_iload (i := 6) (hl := rfl) (hd := dL_law_180) ?_
          refine mx_iconstN 5 dL_law_182 (by decide) ?_
          refine mx_iremN dL_law_183 (by omega) (by decide) ?_
          refine mx_iaddN dL_law_184 ?_
          refine mx_callSW (bc := 2500 * (28 - (i + 1)) + 642) (bs := 16000 * (28 - (i + 1)) + 4752) (As := [.ref b, .long ((((nI x).toInt64) * (3434267979)) - (821)), .int (nI (1 + (y % 5)))]) (rest := [.int (tv (fl_simulate (nI (1 + (y % 5)))) (nI (an_simulate z2 ((((nI x).toInt64) * (3434267979)) - (821)) (nI (1 + (y % 5))).toInt.toNat)))]) (b1 := 1) (b2 := 6) dL_law_185 (lw_simulate G10 I10 b z2 hWb10 ((((nI x).toInt64) * (3434267979)) - (821)) (nI (1 + (y % 5)))) km_L_trySimulate rfl k_639 k_640 rfl rfl (Nat.le_of_ble_eq_true rfl) (by decide) (fun _ _ _ q => q.elim) (fun r21 G11 I11 h22 => ?_)
          obtain ⟨e9, hQ11⟩ := h22
          subst e9
          have hWb11 := hQ11.1
          have hWa11 := hQ11.oth hWb10.1.1 hWa10 (Or.inr hab)
          refine mx_icmp_ne (tgt := 232) dL_law_188 (by decide) (fun c188 => ?_) (fun c188 => ?_)
          · skip
            exact absurd rfl c188
          · skip
            refine mx_aload_n (i := 1) (hi := rfl) (hl := rfl) (hd := dL_law_191) ?_
            refine mx_iconstN 2 dL_law_192 (by decide) ?_
            refine mx_iload (i := 6) (hl := rfl) (hd := dL_law_193) ?_
            refine mx_i2l (hv := rfl) (hd := dL_law_195) ?_
            refine mx_ldc2 (v := (4)) k_1006 dL_law_196 ?_
            refine mx_lmul dL_law_199 ?_
            refine mx_callSW (bc := 2500 * (28 - (i + 1)) + 640) (bs := 16000 * (28 - (i + 1)) + 4740) (As := [.ref a, .int (nI 2), .long (((nI y).toInt64) * (4))]) (rest := []) (b1 := 2) (b2 := 12) dL_law_200 (lw_runScript G11 I11 a z2 hWa11 (nI 2) (((nI y).toInt64) * (4))) km_L_tryScript rfl k_330 k_331 rfl rfl (Nat.le_of_ble_eq_true rfl) (by decide) (fun _ _ _ q => q.elim) (fun r23 G12 I12 h24 => ?_)
            obtain ⟨e9, hQ12⟩ := h24
            subst e9
            have hWa12 := hQ12.1
            have hWb12 := hQ12.oth hWa11.1.1 hWb11 (Or.inl hab)
            refine mx_aload_n (i := 2) (hi := rfl) (hl := rfl) (hd := dL_law_203) ?_
            refine mx_iconstN 2 dL_law_204 (by decide) ?_
            refine mx_iload (i := 6) (hl := rfl) (hd := dL_law_205) ?_
            refine mx_i2l (hv := rfl) (hd := dL_law_207) ?_
            refine mx_ldc2 (v := (4)) k_1006 dL_law_208 ?_
            refine mx_lmul dL_law_211 ?_
            refine mx_callSW (bc := 2500 * (28 - (i + 1)) + 638) (bs := 16000 * (28 - (i + 1)) + 4728) (As := [.ref b, .int (nI 2), .long (((nI y).toInt64) * (4))]) (rest := [.int (tv (fl_runScript (nI 2) (((nI y).toInt64) * (4))) (an_runScript z2 (nI 2).toInt.toNat (((nI y).toInt64) * (4)).toInt.toNat))]) (b1 := 2) (b2 := 12) dL_law_212 (lw_runScript G12 I12 b z2 hWb12 (nI 2) (((nI y).toInt64) * (4))) km_L_tryScript rfl k_330 k_331 rfl rfl (Nat.le_of_ble_eq_true rfl) (by decide) (fun _ _ _ q => q.elim) (fun r25 G13 I13 h26 => ?_)
            obtain ⟨e9, hQ13⟩ := h26
            subst e9
            have hWb13 := hQ13.1
            have hWa13 := hQ13.oth hWb12.1.1 hWa12 (Or.inr hab)
            refine mx_icmp_ne (tgt := 232) dL_law_215 (by decide) (fun c215 => ?_) (fun c215 => ?_)
            · skip
              exact absurd rfl c215
            · skip
              refine mx_aload_n (i := 1) (hi := rfl) (hl := rfl) (hd := dL_law_218) ?_
              refine mx_aload_n (i := 2) (hi := rfl) (hl := rfl) (hd := dL_law_219) ?_
              refine mx_iload (i := 6) (hl := rfl) (hd := dL_law_220) ?_
              refine mx_callS (bc := 2500 * (28 - (i + 1)) + 422) (bs := 16000 * (28 - (i + 1)) + 3432) (As := [.ref a, .ref b, .int (nI y)]) (rest := []) (b1 := 216) (b2 := 1296) dL_law_222 (lr_alike G13 I13 a b z2 hWa13 hWb13 hab y hy) km_L_alike rfl k_987 k_988 rfl rfl (Nat.le_of_ble_eq_true rfl) (by decide) (fun _ _ _ q => q.elim) (fun r27 G14 I14 h28 => ?_)
              obtain ⟨e9, hWa14, hWb14⟩ := h28
              subst e9
              refine mx_if1_eq 232 dL_law_225 (by decide) ?_
              refine mx_iconstN 1 dL_law_228 (by decide) ?_
              refine mx_goto (tgt := 233) dL_law_229 (by decide) ?_
              refine mx_istoreE_n (i := 3) (ls' := [some (.ref Sc.1), some (.ref a), some (.ref b), some (.int (nI 1)), some (.int (nI i)), some (.int (nI x)), some (.int (nI y)), some (.long ((((nI x).toInt64) * (3434267979)) - (821))), none, some (.int (tv (fl_simulate (nI (1 + (y % 5)))) (nI (an_simulate z2 ((((nI x).toInt64) * (3434267979)) - (821)) (nI (1 + (y % 5))).toInt.toNat))))]) (hi := rfl) (hd := dL_law_233) (hn := (by decide : (3 : Nat) < 10)) (hok := rfl) (hls := rfl) ?_
              refine mx_iincE (i := 4) (ls' := [some (.ref Sc.1), some (.ref a), some (.ref b), some (.int (nI 1)), some (.int (nI (i + 1))), some (.int (nI x)), some (.int (nI y)), some (.long ((((nI x).toInt64) * (3434267979)) - (821))), none, some (.int (tv (fl_simulate (nI (1 + (y % 5)))) (nI (an_simulate z2 ((((nI x).toInt64) * (3434267979)) - (821)) (nI (1 + (y % 5))).toInt.toNat))))]) 1 dL_law_234 rfl (by decide) (by decide : (4 : Nat) < 10) rfl rfl ?_
              refine mx_goto (tgt := 21) dL_law_237 (by decide) ?_
              refine mx_leS (ls' := [some (.ref Sc.1), some (.ref a), some (.ref b), some (.int (nI 1)), some (.int (nI (i + 1))), none, none, none, none, none]) ⟨rfl, rfl, rfl, rfl, rfl, trivial⟩ ?_
              refine mx_wk (bc' := 2500 * (28 - (i + 1))) (bs' := 16000 * (28 - (i + 1))) (by omega) (by omega) ?_
              exact ih (i + 1) _ _ z2 (by omega) (by omega) hWa14 hWb14 hJ2

set_option maxHeartbeats 1000000 in
set_option maxRecDepth 100000 in
theorem law_start (hh : List (Nat × Nat × Nat × Nat)) (Sc : mx_Sc) (hS : mx_hS Sc) (hL : Sc.2.1 ≤ 260) (G : mx_G) (I : mx_I) (a : Nat) (ha : mx_sz G = a) (ha0 : 0 < a) : mx_V (mL_law hh) Sc 12 (2500 * (28 - 0) + 292) (16000 * (28 - 0) + 5642) 0 [some (.ref Sc.1), none, none, none, none, none, none, none, none, none] [] G I (fun rv _ _ => rv = some (.int (nI 1))) (fun _ _ _ => False) := by
  refine mx_cl0 (fun hz0 => ?_)
  rw [ha] at hz0
  refine mx_newE (bc := 2500 * (28 - 0) + 291) (bs := 16000 * (28 - 0) + 5631) (ci := 9) (a := a) (by first | rfl | omega) (by first | rfl | (show _ = _ + 11; omega)) dL_law_0 k_48 nw_X9 (by decide) (by show mx_sz G + 0 = a; omega) ?_
  refine mx_dup (hva := rfl) (hd := dL_law_3) ?_
  refine mx_callI (bc := 2500 * (28 - 0) + 146) (bs := 16000 * (28 - 0) + 2821) (As := []) (rest := [.ref a]) (b1 := 145) (b2 := 2810) dL_law_4 (ct_newPaths (mx_nw G 19 0) I a (by rw [mx_tg_nw, if_pos ha.symm]) (by show mx_sz G + 1 = a + 1; omega)) km_X9_init rfl rfl rfl k_50 k_51 rfl rfl (Nat.le_of_ble_eq_true rfl) (by decide) (fun _ _ _ q => q.elim) (fun r1 G1 I1 h2 => ?_)
  obtain ⟨e9, eI, zz1, cr1, sp1, sq1⟩ := h2
  subst e9
  refine mx_cl0 (fun hz1 => ?_)
  rw [zz1] at hz1
  have hW1 : cW G1 I1 a z0 := cW_0 (by omega) sp1 sq1 (fun b k q1 q2 q3 q4 => by rw [eI, mx_u_at, if_neg q4, mx_u_at, if_neg q3]; exact (hz0 b q1).2.2 k) (by rw [eI, mx_u_at, if_neg (by omega), mx_u_at, if_pos ⟨rfl, rfl⟩])
  have tz1 : ∀ b, a + 146 ≤ b → mx_tg G1 b = 0 := fun b q1 => (hz1 b q1).1
  clear cr1 sp1 sq1 hz0 eI
  refine mx_astoreE_n (i := 1) (ls' := [some (.ref Sc.1), some (.ref a), none, none, none, none, none, none, none, none]) (hi := rfl) (hd := dL_law_7) (hn := (by decide : (1 : Nat) < 10)) (hok := rfl) (hls := rfl) ?_
  refine mx_newE (bc := 2500 * (28 - 0) + 145) (bs := 16000 * (28 - 0) + 2810) (ci := 9) (a := (a + 146)) (by first | rfl | omega) (by first | rfl | (show _ = _ + 11; omega)) dL_law_8 k_48 nw_X9 (by decide) (by show mx_sz G1 + 0 = a + 146; omega) ?_
  refine mx_dup (hva := rfl) (hd := dL_law_11) ?_
  refine mx_callI (bc := 2500 * (28 - 0)) (bs := 16000 * (28 - 0)) (As := []) (rest := [.ref (a + 146)]) (b1 := 145) (b2 := 2810) dL_law_12 (ct_newPaths (mx_nw G1 19 0) I1 (a + 146) (by rw [mx_tg_nw, if_pos zz1.symm]) (by show mx_sz G1 + 1 = a + 146 + 1; omega)) km_X9_init rfl rfl rfl k_50 k_51 rfl rfl (Nat.le_of_ble_eq_true rfl) (by decide) (fun _ _ _ q => q.elim) (fun r3 G2 I2 h4 => ?_)
  obtain ⟨e9, eI, zz2, cr2, sp2, sq2⟩ := h4
  subst e9
  have hW2 : cW G2 I2 (a + 146) z0 := cW_0 (by omega) sp2 sq2 (fun b k q1 q2 q3 q4 => by rw [eI, mx_u_at, if_neg q4, mx_u_at, if_neg q3]; exact (hz1 b q1).2.2 k) (by rw [eI, mx_u_at, if_neg (by omega), mx_u_at, if_pos ⟨rfl, rfl⟩])
  have hI1 : ∀ b, b < a + 146 → I2 b = I1 b := fun b q1 => by
    funext k
    rw [eI, mx_u_at, if_neg (by omega), mx_u_at, if_neg (by omega)]
  have cr3 : mx_cr G1 G2 0 (a + 146) := ((mx_cr.rf G1 0 (a + 146)).nw 19 0 (by omega)).tr cr2
  have sm3 : mx_sm G1 G2 := cr3.sm tz1
  have hW3 : cW G2 I2 a z0 := (hW1.ap (fun b _ q => hI1 b q) (fun r _ q b _ q2 => hI1 b (by omega))).gk sm3 (by omega) (fun o ho => (cr3 o (Nat.zero_le _) (by omega)).2.2 6)
  clear hW1 tz1 eI cr2 hI1 cr3 sm3 sp2 sq2 hz1
  refine mx_astoreE_n (i := 2) (ls' := [some (.ref Sc.1), some (.ref a), some (.ref (a + 146)), none, none, none, none, none, none, none]) (hi := rfl) (hd := dL_law_15) (hn := (by decide : (2 : Nat) < 10)) (hok := rfl) (hls := rfl) ?_
  refine mx_iconstN 1 dL_law_16 (by decide) ?_
  refine mx_istoreE_n (i := 3) (ls' := [some (.ref Sc.1), some (.ref a), some (.ref (a + 146)), some (.int (nI 1)), none, none, none, none, none, none]) (hi := rfl) (hd := dL_law_17) (hn := (by decide : (3 : Nat) < 10)) (hok := rfl) (hls := rfl) ?_
  refine mx_iconstN 0 dL_law_18 (by decide) ?_
  refine mx_istoreE (i := 4) (ls' := [some (.ref Sc.1), some (.ref a), some (.ref (a + 146)), some (.int (nI 1)), some (.int (nI 0)), none, none, none, none, none]) (hd := dL_law_19) (hn := (by decide : (4 : Nat) < 10)) (hok := rfl) (hls := rfl) ?_
  exact law_loop hh Sc hS hL a (a + 146) (Nat.le_refl _) _ 0 _ _ z0 (Nat.lt_succ_self _) (Nat.zero_le _) hW3 hW2 zJ_0
