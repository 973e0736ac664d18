/-! THE LAW: at the start -/
def v0 : Gr := (0, 0, fun _ => 0, fun _ => 0, fun _ => 0, fun _ => 0)
def x0 : Vl := (v0, 0, fun _ => 0)
def z0 : Zs := ((0, fun _ => 0), x0, (0, fun _ => x0), fun _ => false, fun _ => x0)
theorem ptN_0 {I : mx_I} {N : Nat} (h0 : ∀ b k, N ≤ b → b < N + 5 → ¬ (b = N ∧ k = 6) → I b k = nI 0) (h6 : I N 6 = nI 1) (ch : Nat → Nat) : ptN I N (pa0 ch) :=
  ⟨pa0_wf ch, h0 N 1 (Nat.le_refl N) (by omega) (by omega), h0 N 2 (Nat.le_refl N) (by omega) (by omega), h6, fun s hs => absurd hs (Nat.not_lt_zero s), fun s _ => h0 _ _ (by omega) (by omega) (by omega), fun s _ => h0 _ _ (by omega) (by omega) (by omega), fun s _ => h0 _ _ (by omega) (by omega) (by omega)⟩
theorem stN_0 {I : mx_I} {o : Nat} (h0 : I o 0 = nI 0) (h1 : I o 1 = nI 0) : stN I o v0 :=
  ⟨⟨Nat.zero_le _, Nat.zero_le _, fun s hs => absurd hs (Nat.not_lt_zero s)⟩, h0, h1, fun s hs => absurd hs (Nat.not_lt_zero s), fun s hs => absurd hs (Nat.not_lt_zero s), fun s hs => absurd hs (Nat.not_lt_zero s), fun s hs => absurd hs (Nat.not_lt_zero s)⟩
theorem pE_0 (ch : Nat → Nat) : pErr ch 0 = none := rfl
theorem cW_0 {G : mx_G} {I : mx_I} {a : Nat} (hz : a + 146 ≤ mx_sz G) (h1 : oSP G a) (h2 : oSP0 G a) (h0 : ∀ b k, a ≤ b → b < a + 146 → ¬ (b = a + 3 ∧ k = 6) → ¬ (b = a + 12 ∧ k = 6) → I b k = nI 0) (h6 : I (a + 3) 6 = nI 1) : cW G I a z0 := by
  have hp : ∀ ch, ptN I (a + 3) (rdF ch 0) := fun ch => by
    rw [rdF_0]
    exact ptN_0 (fun b k q1 q2 q3 => h0 b k (by omega) (by omega) q3 (by omega)) h6 ch
  refine ⟨⟨h1, hz, hp⟩, ⟨Nat.zero_le _, h0 _ _ (by omega) (by omega) (by omega) (by omega), fun s hs => absurd hs (Nat.not_lt_zero s), fun s hs => absurd hs (Nat.not_lt_zero s)⟩, ⟨stN_0 (h0 _ _ (by omega) (by omega) (by omega) (by omega)) (h0 _ _ (by omega) (by omega) (by omega) (by omega)), ⟨Nat.zero_le _, Nat.zero_le _, pE_0 _, fun i hi => absurd hi (Nat.not_lt_zero i)⟩, ?_⟩, ⟨Nat.zero_le _, 0, by decide, h0 _ _ (by omega) (by omega) (by omega) (by omega), h0 _ _ (by omega) (by omega) (by omega) (by omega), fun j hj => absurd hj (Nat.not_lt_zero j)⟩, fun s hs => ⟨h0 _ _ (by omega) (by omega) (by omega) (by omega), fun q => Bool.noConfusion q⟩⟩
  rw [h2.1]
  exact ⟨Or.inl rfl, by omega, h1.2.2.1.2, hp _⟩
theorem mW_0 {G : mx_G} {I : mx_I} {m : Nat} (hz : m + 23 ≤ mx_sz G) (h1 : oMD G m) (h0 : ∀ b k, m ≤ b → b < m + 23 → I b k = nI 0) : mW G I m z0 := by
  refine ⟨h1, hz, ⟨Nat.zero_le _, h0 _ _ (by omega) (by omega), fun s hs => absurd hs (Nat.not_lt_zero s), fun s hs => absurd hs (Nat.not_lt_zero s)⟩, ⟨⟨⟨⟨Nat.zero_le _, Nat.zero_le _, fun s hs => absurd hs (Nat.not_lt_zero s)⟩, h0 _ _ (by omega) (by omega), h0 _ _ (by omega) (by omega), fun s hs => absurd hs (Nat.not_lt_zero s)⟩, h0 _ _ (by omega) (by omega), fun s hs => absurd hs (Nat.not_lt_zero s), ⟨Nat.zero_le _, pE_0 _, fun s hs => absurd hs (Nat.not_lt_zero s)⟩⟩, Nat.zero_le _⟩, ⟨Nat.zero_le _, h0 _ _ (by omega) (by omega), fun s hs => absurd hs (Nat.not_lt_zero s)⟩, fun s hs => ⟨h0 _ _ (by omega) (by omega), fun q => Bool.noConfusion q⟩⟩
theorem zI_0 : zI z0 := ⟨fun s hs => absurd hs (Nat.not_lt_zero s), fun s hs => absurd hs (Nat.not_lt_zero s), fun s _ q => Bool.noConfusion q⟩
theorem mx_cr.sm {G G' : mx_G} {hi : Nat} (h : mx_cr G G' 0 hi) (h0 : ∀ b, hi ≤ b → mx_tg G b = 0) : mx_sm G G' := fun b hb => by
  have hlt : b < hi := (Nat.lt_or_ge b hi).elim id (fun q => absurd (h0 b q) hb)
  obtain ⟨e1, e2, e3⟩ := h b (Nat.zero_le _) hlt
  exact ⟨e1, e2, fun k _ _ => e3 k⟩
theorem i32_N (x : Int32) : ∃ n, x = nI n := ⟨x.toBitVec.toNat, Int32.toBitVec_inj.mp (by
  show x.toBitVec = BitVec.ofNat 32 x.toBitVec.toNat
  rw [BitVec.ofNat_toNat, BitVec.setWidth_eq])⟩
theorem and31 (x : Int32) : ∃ k, k < 32 ∧ x &&& nI 31 = nI k := by
  obtain ⟨n, rfl⟩ := i32_N x
  exact ⟨n &&& 31, Nat.and_lt_two_pow (n := 5) n (by decide), nI_and n 31⟩
theorem sub5 {L : Nat} (hL : L ≤ 2560) : (nI L - nI 5).toInt = (L : Int) - 5 := by
  by_cases c : 5 ≤ L
  · rw [nI_sub c, nI_toInt (by omega)]; omega
  · rcases (show L = 0 ∨ L = 1 ∨ L = 2 ∨ L = 3 ∨ L = 4 by omega) with rfl | rfl | rfl | rfl | rfl <;> decide

set_option maxHeartbeats 1000000 in
set_option maxRecDepth 100000 in
theorem law_loop (hh : List (Nat × Nat × Nat × Nat)) (Sc : mx_Sc) (hS : mx_hS Sc) (hL : Sc.2.1 ≤ 2560) (a m o : Nat) : ∀ (n i : Nat) (G : mx_G) (I : mx_I) (z : Zs), Sc.2.1 + 5 - i < n → i ≤ Sc.2.1 + 5 → LW G I a m o z → mx_V (mL_law hh) Sc 10 (2 * (Sc.2.1 - i)) (22 * (Sc.2.1 - i)) 23 [some (.ref Sc.1), some (.ref a), some (.ref m), some (.ref o), some (.int (nI i)), none, none] [] G I (fun rv _ _ => rv = some (.int (nI 1))) (fun _ _ _ => False) := by
  intro n
  induction n with
  | zero => intro i G I z hn; exact absurd hn (Nat.not_lt_zero _)
  | succ n ih =>
    intro i G I z hn hi0 hw
    refine mx_iload (i := 4) (hl := rfl) (hd := dL_law_23) ?_
    refine mx_aload_n (i := 0) (hi := rfl) (hl := rfl) (hd := dL_law_25) ?_
    refine mx_sclen hS dL_law_26 ?_
    refine mx_iconstN 5 dL_law_27 (by decide) ?_
    refine mx_isub dL_law_28 ?_
    refine mx_cmpNR_gt 1980 dL_law_29 (by decide) (by omega) (fun c29 => ?_) (fun c29 => ?_)
    · skip
      refine mx_iconstN 1 dL_law_1980 (by decide) ?_
      exact mx_iret dL_law_1981 rfl (by decide) (rfl)
    · skip
      have hi : i + 5 ≤ Sc.2.1 := by rw [sub5 hL] at c29; omega
      obtain ⟨s0, es0⟩ : ∃ s0, Sc.2.2 i = s0 := ⟨_, rfl⟩
      refine mx_wk (bc' := 2 * (Sc.2.1 - (i + 5)) + 10) (bs' := 22 * (Sc.2.1 - (i + 5)) + 110) (by omega) (by omega) ?_
      have KK : ∀ G' I' z', LW G' I' a m o z' → mx_V (mL_law hh) Sc 10 (2 * (Sc.2.1 - (i + 5))) (22 * (Sc.2.1 - (i + 5))) 1974 [some (.ref Sc.1), some (.ref a), some (.ref m), some (.ref o), some (.int (nI i)), none, none] [] G' I' (fun rv _ _ => rv = some (.int (nI 1))) (fun _ _ _ => False) := by
        intro G' I' z' hw'
        refine mx_iincE (i := 4) (ls' := [some (.ref Sc.1), some (.ref a), some (.ref m), some (.ref o), some (.int (nI (i + 5))), none, none]) 5 dL_law_1974 rfl (by decide) (by decide : (4 : Nat) < 7) rfl rfl ?_
        refine mx_goto (tgt := 23) dL_law_1977 (by decide) ?_
        exact ih (i + 5) G' I' z' (by omega) (by omega) hw'
      refine mx_aload_n (i := 0) (hi := rfl) (hl := rfl) (hd := dL_law_32) ?_
      refine mx_iload (i := 4) (hl := rfl) (hd := dL_law_33) ?_
      refine mx_scld i hS dL_law_35 ⟨rfl, by omega, by omega⟩ ?_
      refine mx_top (y := s0) es0 ?_
      refine mx_bipushN 31 dL_law_36 (by decide) ?_
      refine mx_iand dL_law_38 ?_
      obtain ⟨k9, hk9, hk8⟩ := and31 s0
      refine mx_top (y := nI k9) hk8 ?_
      rcases (show k9 = 0 ∨ k9 = 1 ∨ k9 = 2 ∨ k9 = 3 ∨ k9 = 4 ∨ k9 = 5 ∨ k9 = 6 ∨ k9 = 7 ∨ k9 = 8 ∨ k9 = 9 ∨ k9 = 10 ∨ k9 = 11 ∨ k9 = 12 ∨ k9 = 13 ∨ k9 = 14 ∨ k9 = 15 ∨ k9 = 16 ∨ k9 = 17 ∨ k9 = 18 ∨ k9 = 19 ∨ k9 = 20 ∨ k9 = 21 ∨ k9 = 22 ∨ k9 = 23 ∨ k9 = 24 ∨ k9 = 25 ∨ k9 = 26 ∨ k9 = 27 ∨ k9 = 28 ∨ k9 = 29 ∨ k9 = 30 ∨ k9 = 31 by omega) with rfl | rfl | rfl | rfl | rfl | rfl | rfl | rfl | rfl | rfl | rfl | rfl | rfl | rfl | rfl | rfl | rfl | rfl | rfl | rfl | rfl | rfl | rfl | rfl | rfl | rfl | rfl | rfl | rfl | rfl | rfl | rfl
      · refine mx_tabIn (tgt := 164) dL_law_39 (by decide) (by decide) rfl (by decide) ?_
        exact lc_append hh Sc hS _ _ G I a m o z i hi hL hw _ _ KK
      · refine mx_tabIn (tgt := 220) dL_law_39 (by decide) (by decide) rfl (by decide) ?_
        exact lc_clearText hh Sc hS _ _ G I a m o z i hi hL hw _ _ KK
      · refine mx_tabIn (tgt := 233) dL_law_39 (by decide) (by decide) rfl (by decide) ?_
        exact lc_errorPosition hh Sc hS _ _ G I a m o z i hi hL hw _ _ KK
      · refine mx_tabIn (tgt := 274) dL_law_39 (by decide) (by decide) rfl (by decide) ?_
        exact lc_load hh Sc hS _ _ G I a m o z i hi hL hw _ _ KK
      · refine mx_tabIn (tgt := 318) dL_law_39 (by decide) (by decide) rfl (by decide) ?_
        exact lc_about hh Sc hS _ _ G I a m o z i hi hL hw _ _ KK
      · refine mx_tabIn (tgt := 374) dL_law_39 (by decide) (by decide) rfl (by decide) ?_
        exact lc_step hh Sc hS _ _ G I a m o z i hi hL hw _ _ KK
      · refine mx_tabIn (tgt := 442) dL_law_39 (by decide) (by decide) rfl (by decide) ?_
        exact lc_person hh Sc hS _ _ G I a m o z i hi hL hw _ _ KK
      · refine mx_tabIn (tgt := 510) dL_law_39 (by decide) (by decide) rfl (by decide) ?_
        exact lc_find hh Sc hS _ _ G I a m o z i hi hL hw _ _ KK
      · refine mx_tabIn (tgt := 590) dL_law_39 (by decide) (by decide) rfl (by decide) ?_
        exact lc_patternAt hh Sc hS _ _ G I a m o z i hi hL hw _ _ KK
      · refine mx_tabIn (tgt := 646) dL_law_39 (by decide) (by decide) rfl (by decide) ?_
        exact lc_addPerson hh Sc hS _ _ G I a m o z i hi hL hw _ _ KK
      · refine mx_tabIn (tgt := 690) dL_law_39 (by decide) (by decide) rfl (by decide) ?_
        exact lc_addStep hh Sc hS _ _ G I a m o z i hi hL hw _ _ KK
      · refine mx_tabIn (tgt := 782) dL_law_39 (by decide) (by decide) rfl (by decide) ?_
        exact lc_removeStep hh Sc hS _ _ G I a m o z i hi hL hw _ _ KK
      · refine mx_tabIn (tgt := 838) dL_law_39 (by decide) (by decide) rfl (by decide) ?_
        exact lc_setCost hh Sc hS _ _ G I a m o z i hi hL hw _ _ KK
      · refine mx_tabIn (tgt := 906) dL_law_39 (by decide) (by decide) rfl (by decide) ?_
        exact lc_turn hh Sc hS _ _ G I a m o z i hi hL hw _ _ KK
      · refine mx_tabIn (tgt := 962) dL_law_39 (by decide) (by decide) rfl (by decide) ?_
        exact lc_exchange hh Sc hS _ _ G I a m o z i hi hL hw _ _ KK
      · refine mx_tabIn (tgt := 1030) dL_law_39 (by decide) (by decide) rfl (by decide) ?_
        exact lc_take hh Sc hS _ _ G I a m o z i hi hL hw _ _ KK
      · refine mx_tabIn (tgt := 1074) dL_law_39 (by decide) (by decide) rfl (by decide) ?_
        exact lc_undo hh Sc hS _ _ G I a m o z i hi hL hw _ _ KK
      · refine mx_tabIn (tgt := 1118) dL_law_39 (by decide) (by decide) rfl (by decide) ?_
        exact lc_cost hh Sc hS _ _ G I a m o z i hi hL hw _ _ KK
      · refine mx_tabIn (tgt := 1186) dL_law_39 (by decide) (by decide) rfl (by decide) ?_
        exact lc_length hh Sc hS _ _ G I a m o z i hi hL hw _ _ KK
      · refine mx_tabIn (tgt := 1254) dL_law_39 (by decide) (by decide) rfl (by decide) ?_
        exact lc_pathAt hh Sc hS _ _ G I a m o z i hi hL hw _ _ KK
      · refine mx_tabIn (tgt := 1334) dL_law_39 (by decide) (by decide) rfl (by decide) ?_
        exact lc_paths hh Sc hS _ _ G I a m o z i hi hL hw _ _ KK
      · refine mx_tabIn (tgt := 1414) dL_law_39 (by decide) (by decide) rfl (by decide) ?_
        exact lc_needed hh Sc hS _ _ G I a m o z i hi hL hw _ _ KK
      · refine mx_tabIn (tgt := 1482) dL_law_39 (by decide) (by decide) rfl (by decide) ?_
        exact lc_bestNew hh Sc hS _ _ G I a m o z i hi hL hw _ _ KK
      · refine mx_tabIn (tgt := 1550) dL_law_39 (by decide) (by decide) rfl (by decide) ?_
        exact lc_follow hh Sc hS _ _ G I a m o z i hi hL hw _ _ KK
      · refine mx_tabIn (tgt := 1662) dL_law_39 (by decide) (by decide) rfl (by decide) ?_
        exact lc_runScript hh Sc hS _ _ G I a m o z i hi hL hw _ _ KK
      · refine mx_tabIn (tgt := 1762) dL_law_39 (by decide) (by decide) rfl (by decide) ?_
        exact lc_simulate hh Sc hS _ _ G I a m o z i hi hL hw _ _ KK
      · refine mx_tabIn (tgt := 1862) dL_law_39 (by decide) (by decide) rfl (by decide) ?_
        exact lc_save hh Sc hS _ _ G I a m o z i hi hL hw _ _ KK
      · refine mx_tabIn (tgt := 1918) dL_law_39 (by decide) (by decide) rfl (by decide) ?_
        exact lc_restore hh Sc hS _ _ G I a m o z i hi hL hw _ _ KK
      · refine mx_tabOut (tgt := 1974) dL_law_39 (by decide) (by decide) ?_
        exact mx_wk (by omega) (by omega) (KK G I z hw)
      · refine mx_tabOut (tgt := 1974) dL_law_39 (by decide) (by decide) ?_
        exact mx_wk (by omega) (by omega) (KK G I z hw)
      · refine mx_tabOut (tgt := 1974) dL_law_39 (by decide) (by decide) ?_
        exact mx_wk (by omega) (by omega) (KK G I z hw)
      · refine mx_tabOut (tgt := 1974) dL_law_39 (by decide) (by decide) ?_
        exact mx_wk (by omega) (by omega) (KK G I z hw)

set_option maxHeartbeats 1000000 in
set_option maxRecDepth 100000 in
theorem law_start (hh : List (Nat × Nat × Nat × Nat)) (Sc : mx_Sc) (hS : mx_hS Sc) (hL : Sc.2.1 ≤ 2560) (G : mx_G) (I : mx_I) (a : Nat) (ha : mx_sz G = a) (ha0 : 0 < a) : mx_V (mL_law hh) Sc 10 (2 * Sc.2.1 + 170) (22 * Sc.2.1 + 6001) 0 [some (.ref Sc.1), none, none, none, none, none, none] [] G I (fun rv _ _ => rv = some (.int (nI 1))) (fun _ _ _ => False) := by
  refine mx_cl0 (fun hz0 => ?_)
  rw [ha] at hz0
  refine mx_newE (bc := 2 * Sc.2.1 + 169) (bs := 22 * Sc.2.1 + 5990) (ci := 9) (a := a) (by first | rfl | omega) (by first | rfl | (show _ = _ + 11; omega)) dL_law_0 k_77 nw_X9 (by decide) (by show mx_sz G + 0 = a; omega) ?_
  refine mx_dup (hva := rfl) (hd := dL_law_3) ?_
  refine mx_callI (bc := 2 * Sc.2.1 + 24) (bs := 22 * Sc.2.1 + 3180) (As := []) (rest := [.ref a]) (b1 := 145) (b2 := 2810) dL_law_4 (ct_newPaths (mx_nw G 19 0) I a (by rw [mx_tg_nw, if_pos ha.symm]) (by show mx_sz G + 1 = a + 1; omega)) km_X9_init rfl rfl rfl k_79 k_80 rfl rfl (Nat.le_of_ble_eq_true rfl) (by decide) (fun _ _ _ q => q.elim) (fun r1 G1 I1 h2 => ?_)
  obtain ⟨e9, eI, zz1, cr1, sp1, sq1⟩ := h2
  subst e9
  refine mx_cl0 (fun hz1 => ?_)
  rw [zz1] at hz1
  have hW1 : cW G1 I1 a z0 := cW_0 (by omega) sp1 sq1 (fun b k q1 q2 q3 q4 => by rw [eI, mx_u_at, if_neg q4, mx_u_at, if_neg q3]; exact (hz0 b q1).2.2 k) (by rw [eI, mx_u_at, if_neg (by omega), mx_u_at, if_pos ⟨rfl, rfl⟩])
  have hm0 : ∀ b k, a + 146 ≤ b → I1 b k = nI 0 := fun b k q1 => (hz1 b q1).2.2 k
  have tz1 : ∀ b, a + 146 ≤ b → mx_tg G1 b = 0 := fun b q1 => (hz1 b q1).1
  clear cr1 sp1 sq1 hz0 hz1 eI
  refine mx_astoreE_n (i := 1) (ls' := [some (.ref Sc.1), some (.ref a), none, none, none, none, none]) (hi := rfl) (hd := dL_law_7) (hn := (by decide : (1 : Nat) < 7)) (hok := rfl) (hls := rfl) ?_
  refine mx_newE (bc := 2 * Sc.2.1 + 23) (bs := 22 * Sc.2.1 + 3148) (ci := 10) (a := (a + 146)) (by first | rfl | omega) (by first | rfl | (show _ = _ + 32; omega)) dL_law_8 k_1007 nw_X10 (by decide) (by show mx_sz G1 + 0 = a + 146; omega) ?_
  refine mx_dup (hva := rfl) (hd := dL_law_11) ?_
  refine mx_callI (bc := 2 * Sc.2.1 + 1) (bs := 22 * Sc.2.1 + 1) (As := []) (rest := [.ref (a + 146)]) (b1 := 22) (b2 := 3147) dL_law_12 (mt_new (mx_nw G1 20 0) I1 (a + 146) (by rw [mx_tg_nw, if_pos zz1.symm]) (by show mx_sz G1 + 1 = a + 146 + 1; omega)) km_X10_init rfl rfl rfl k_1009 k_1010 rfl rfl (Nat.le_of_ble_eq_true rfl) (by decide) (fun _ _ _ q => q.elim) (fun r3 G2 I2 h4 => ?_)
  obtain ⟨e9, eI, zz2, cr2, md2⟩ := h4
  subst e9
  have hI2 : ∀ b k, a + 146 ≤ b → b < a + 146 + 23 → I2 b k = nI 0 := fun b k q1 q2 => by
    rw [eI, mx_u_at]
    split
    · rfl
    · exact hm0 b k q1
  have hI1 : ∀ b, b < a + 146 → I2 b = I1 b := fun b q1 => by
    funext k
    rw [eI, mx_u_at, if_neg (by omega)]
  have cr3 : mx_cr G1 G2 0 (a + 146) := ((mx_cr.rf G1 0 (a + 146)).nw 20 0 (by omega)).tr cr2
  have sm3 : mx_sm G1 G2 := cr3.sm tz1
  have hW2 : cW G2 I2 a z0 := (hW1.k sm3 (by omega) (fun o ho => (cr3 o (Nat.zero_le _) (by omega)).2.2 6) (fun b _ q2 => hI1 b (by omega))).1
  have hM2 : mW G2 I2 (a + 146) z0 := mW_0 (by omega) md2 hI2
  refine mx_cl0 (fun hz2 => ?_)
  rw [zz2] at hz2
  have tz2 : ∀ b, a + 146 + 23 ≤ b → mx_tg G2 b = 0 := fun b q1 => (hz2 b q1).1
  clear hW1 hm0 tz1 eI cr2 md2 hI2 hI1 cr3 sm3 hz2
  refine mx_astoreE_n (i := 2) (ls' := [some (.ref Sc.1), some (.ref a), some (.ref (a + 146)), none, none, none, none]) (hi := rfl) (hd := dL_law_15) (hn := (by decide : (2 : Nat) < 7)) (hok := rfl) (hls := rfl) ?_
  refine mx_iconstN 1 dL_law_16 (by decide) ?_
  refine mx_newaE (bc := 2 * Sc.2.1) (bs := 22 * Sc.2.1) (t := 4) (n := 1) (a := (a + 169)) (by first | rfl | omega) (by first | rfl | omega) dL_law_17 rfl (by decide) k_ac_long rfl (by decide) (by show mx_sz G2 + 0 = a + 169; omega) ?_
  refine mx_astoreE_n (i := 3) (ls' := [some (.ref Sc.1), some (.ref a), some (.ref (a + 146)), some (.ref (a + 169)), none, none, none]) (hi := rfl) (hd := dL_law_19) (hn := (by decide : (3 : Nat) < 7)) (hok := rfl) (hls := rfl) ?_
  have cr5 : mx_cr G2 (mx_nw G2 4 1) 0 (a + 146 + 23) := (mx_cr.rf G2 0 (a + 146 + 23)).nw 4 1 (by omega)
  have sm5 : mx_sm G2 (mx_nw G2 4 1) := cr5.sm tz2
  have z5 : mx_sz G2 ≤ mx_sz (mx_nw G2 4 1) := Nat.le_succ _
  have hW5 : cW (mx_nw G2 4 1) I2 a z0 := (hW2.k sm5 z5 (fun o ho => (cr5 o (Nat.zero_le _) (by omega)).2.2 6) (fun b _ _ => rfl)).1
  have hM5 : mW (mx_nw G2 4 1) I2 (a + 146) z0 := ⟨hM2.1.sm sm5, Nat.le_trans hM2.2.1 z5, hM2.2.2⟩
  have to5 : mx_tg (mx_nw G2 4 1) (a + 169) = 4 := by rw [mx_tg_nw, if_pos (by omega)]
  have lo5 : mx_ln (mx_nw G2 4 1) (a + 169) = 1 := by rw [mx_ln_nw, if_pos (by omega)]
  refine mx_iconstN 0 dL_law_20 (by decide) ?_
  refine mx_istoreE (i := 4) (ls' := [some (.ref Sc.1), some (.ref a), some (.ref (a + 146)), some (.ref (a + 169)), some (.int (nI 0)), none, none]) (hd := dL_law_21) (hn := (by decide : (4 : Nat) < 7)) (hok := rfl) (hls := rfl) ?_
  exact law_loop hh Sc hS hL a (a + 146) (a + 169) _ 0 _ _ z0 (Nat.lt_succ_self _) (Nat.zero_le _) ⟨hW5, hM5, zI_0, Nat.le_refl _, to5, lo5⟩
