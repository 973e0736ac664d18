/-! THE REFERENCE: its object, its reading of patterns -/
def oMD (G : mx_G) (m : Nat) : Prop := mx_tg G m = 20 ∧ (mx_rf G m 1 = m + 1 ∧ mx_tg G (m + 1) = 1 ∧ mx_ln G (m + 1) = 110) ∧ (mx_rf G m 4 = m + 2 ∧ mx_tg G (m + 2) = 1 ∧ mx_ln G (m + 2) = 143) ∧ (mx_rf G m 5 = m + 3 ∧ mx_tg G (m + 3) = 1 ∧ mx_ln G (m + 3) = 143) ∧ (mx_rf G m 6 = m + 4 ∧ mx_tg G (m + 4) = 1 ∧ mx_ln G (m + 4) = 143) ∧ (mx_rf G m 7 = m + 5 ∧ mx_tg G (m + 5) = 1 ∧ mx_ln G (m + 5) = 2002) ∧ (mx_rf G m 9 = m + 6 ∧ mx_tg G (m + 6) = 1 ∧ mx_ln G (m + 6) = 286) ∧ (mx_rf G m 10 = m + 7 ∧ mx_tg G (m + 7) = 3 ∧ mx_ln G (m + 7) = 2) ∧ (mx_rf G m 15 = m + 8 ∧ mx_tg G (m + 8) = 1 ∧ mx_ln G (m + 8) = 21) ∧ (mx_rf G m 16 = m + 9 ∧ mx_tg G (m + 9) = 1 ∧ mx_ln G (m + 9) = 21) ∧ (mx_rf G m 17 = m + 10 ∧ mx_tg G (m + 10) = 3 ∧ mx_ln G (m + 10) = 10) ∧ (mx_rf G m 18 = m + 11 ∧ mx_tg G (m + 11) = 1 ∧ mx_ln G (m + 11) = 10) ∧ (mx_rf G m 19 = m + 12 ∧ mx_tg G (m + 12) = 1 ∧ mx_ln G (m + 12) = 10) ∧ (mx_rf G m 20 = m + 13 ∧ mx_tg G (m + 13) = 3 ∧ mx_ln G (m + 13) = 10) ∧ (mx_rf G m 21 = m + 14 ∧ mx_tg G (m + 14) = 1 ∧ mx_ln G (m + 14) = 10) ∧ (mx_rf G m 22 = m + 15 ∧ mx_tg G (m + 15) = 1 ∧ mx_ln G (m + 15) = 10) ∧ (mx_rf G m 23 = m + 16 ∧ mx_tg G (m + 16) = 1 ∧ mx_ln G (m + 16) = 25) ∧ (mx_rf G m 24 = m + 17 ∧ mx_tg G (m + 17) = 1 ∧ mx_ln G (m + 17) = 168) ∧ (mx_rf G m 25 = m + 18 ∧ mx_tg G (m + 18) = 1 ∧ mx_ln G (m + 18) = 4) ∧ (mx_rf G m 26 = m + 19 ∧ mx_tg G (m + 19) = 1 ∧ mx_ln G (m + 19) = 4) ∧ (mx_rf G m 29 = m + 20 ∧ mx_tg G (m + 20) = 1 ∧ mx_ln G (m + 20) = 5) ∧ (mx_rf G m 30 = m + 21 ∧ mx_tg G (m + 21) = 1 ∧ mx_ln G (m + 21) = 5) ∧ (mx_rf G m 31 = m + 22 ∧ mx_tg G (m + 22) = 1 ∧ mx_ln G (m + 22) = 5)
theorem mx_b1 {p : Prop} [Decidable p] (h : mx_b (decide p) = nI 1) : p := by
  by_cases q : p
  · exact q
  · rw [decide_eq_false q] at h
    exact absurd h (by decide)
def pcM (I : mx_I) (a j : Nat) (x : Pc) : Prop := I a j = mx_b x.2.2 ∧ I (a + 1) j = nI x.1 ∧ I (a + 2) j = nI x.2.1
theorem pcM.k {I I' : mx_I} {a j : Nat} {x : Pc} (h : pcM I a j x) (e : ∀ b, a ≤ b → b ≤ a + 2 → I' b j = I b j) : pcM I' a j x := ⟨(e _ (by omega) (by omega)).trans h.1, (e _ (by omega) (by omega)).trans h.2.1, (e _ (by omega) (by omega)).trans h.2.2⟩

set_option maxHeartbeats 4000000 in
set_option maxRecDepth 100000 in
theorem mt_refused (G : mx_G) (I : mx_I) (m : Nat) (hs : oMD G m) (w : Nat) (hw : w < 2 ^ 31) : mx_CTi yX10_refused mX10_refused 1 [.ref m, .int (nI w)] G I (fun rv I1 => rv = some (.int (mx_b (decide (0 < w)))) ∧ I1 = mx_u I m 0 (nI w)) := by
  refine mx_start (k := 0) (by decide) rfl rfl (fun h => nomatch h) (Nat.le_of_ble_eq_true rfl) ?_
  show mx_V mX10_refused mx_S0 1 0 0 0 [some (.ref m), some (.int (nI w))] [] G I (fun rv Gz Iz => (fun rv I1 => rv = some (.int (mx_b (decide (0 < w)))) ∧ I1 = mx_u I m 0 (nI w)) rv Iz ∧ Gz = G) (fun _ _ _ => False)
  have tgm := hs.1
  refine mx_aload_n (i := 0) (hi := rfl) (hl := rfl) (hd := dX10_refused_0) ?_
  refine mx_iload_n (i := 1) (hi := rfl) (hl := rfl) (hd := dX10_refused_1) ?_
  refine mx_putI (ci := 10) (k := 0) dX10_refused_2 k_1013 (by decide) rfl rfl rfl rfl (by assumption) ?_
  refine mx_iload_n (i := 1) (hi := rfl) (hl := rfl) (hd := dX10_refused_5) ?_
  refine mx_ifN_le 13 dX10_refused_6 (by decide) (by omega) (fun c6 => ?_) (fun c6 => ?_)
  · skip
    refine mx_iconstN 0 dX10_refused_13 (by decide) ?_
    exact mx_iret dX10_refused_14 rfl (by decide) (⟨⟨congrArg (fun z => some (Value.int z)) (mx_bF (by omega)), rfl⟩, rfl⟩)
  · skip
    refine mx_iconstN 1 dX10_refused_9 (by decide) ?_
    refine mx_goto (tgt := 14) dX10_refused_10 (by decide) ?_
    exact mx_iret dX10_refused_14 rfl (by decide) (⟨⟨congrArg (fun z => some (Value.int z)) (mx_bT (by omega)), rfl⟩, rfl⟩)

set_option maxHeartbeats 4000000 in
set_option maxRecDepth 100000 in
theorem mt_thrown (G : mx_G) (I : mx_I) (m : Nat) (hs : oMD G m) : mx_CTp yX10_thrown mX10_thrown 1 [.ref m] G I (some (.int (I m 0))) := by
  refine mx_start (k := 0) (by decide) rfl rfl (fun h => nomatch h) (Nat.le_of_ble_eq_true rfl) ?_
  show mx_V mX10_thrown mx_S0 1 0 0 0 [some (.ref m)] [] G I (fun rv Gz Iz => rv = some (.int (I m 0)) ∧ Gz = G ∧ Iz = I) (fun _ _ _ => False)
  have tgm := hs.1
  refine mx_aload_n (i := 0) (hi := rfl) (hl := rfl) (hd := dX10_thrown_0) ?_
  refine mx_getV (ci := 10) (k := 0) (I m 0 : Int32) dX10_thrown_1 k_1013 (by decide) rfl (by assumption) rfl ?_
  exact mx_iret dX10_thrown_4 rfl rfl (⟨rfl, rfl, rfl⟩)

set_option maxHeartbeats 4000000 in
set_option maxRecDepth 100000 in
theorem mt_beginBranch (G : mx_G) (I : mx_I) (m : Nat) (hs : oMD G m) (d : Nat) (hd : d < 10) : mx_CTi yX10_beginBranch mX10_beginBranch 1 [.ref m, .int (nI d)] G I (fun rv I1 => rv = none ∧ pcM I1 (m + 13) d (0, 0, true) ∧ (∀ b k, ¬ (m + 13 ≤ b ∧ b ≤ m + 15 ∧ k = d) → I1 b k = I b k)) := by
  refine mx_start (k := 0) (by decide) rfl rfl (fun h => nomatch h) (Nat.le_of_ble_eq_true rfl) ?_
  show mx_V mX10_beginBranch mx_S0 1 0 0 0 [some (.ref m), some (.int (nI d))] [] G I (fun rv Gz Iz => (fun rv I1 => rv = none ∧ pcM I1 (m + 13) d (0, 0, true) ∧ (∀ b k, ¬ (m + 13 ≤ b ∧ b ≤ m + 15 ∧ k = d) → I1 b k = I b k)) rv Iz ∧ Gz = G) (fun _ _ _ => False)
  obtain ⟨tgm, -, -, -, -, -, -, -, -, -, -, -, -, ⟨r_andEmpty, t_andEmpty, l_andEmpty⟩, ⟨r_andFirst, t_andFirst, l_andFirst⟩, ⟨r_andLast, t_andLast, l_andLast⟩, -⟩ := hs
  refine mx_aload_n (i := 0) (hi := rfl) (hl := rfl) (hd := dX10_beginBranch_0) ?_
  refine mx_getR (ci := 10) (k := 20) (r := (m + 13)) dX10_beginBranch_1 k_1033 (by decide) rfl (by assumption) (by assumption) (by omega) ?_
  refine mx_iload_n (i := 1) (hi := rfl) (hl := rfl) (hd := dX10_beginBranch_4) ?_
  refine mx_iconstN 1 dX10_beginBranch_5 (by decide) ?_
  refine mx_zast d dX10_beginBranch_6 (by assumption) ⟨rfl, by omega, by omega⟩ (by decide) ?_
  refine mx_aload_n (i := 0) (hi := rfl) (hl := rfl) (hd := dX10_beginBranch_7) ?_
  refine mx_getR (ci := 10) (k := 21) (r := (m + 14)) dX10_beginBranch_8 k_1034 (by decide) rfl (by assumption) (by assumption) (by omega) ?_
  refine mx_iload_n (i := 1) (hi := rfl) (hl := rfl) (hd := dX10_beginBranch_11) ?_
  refine mx_iconstN 0 dX10_beginBranch_12 (by decide) ?_
  refine mx_iast d dX10_beginBranch_13 (by assumption) ⟨rfl, by omega, by omega⟩ ?_
  refine mx_aload_n (i := 0) (hi := rfl) (hl := rfl) (hd := dX10_beginBranch_14) ?_
  refine mx_getR (ci := 10) (k := 22) (r := (m + 15)) dX10_beginBranch_15 k_1035 (by decide) rfl (by assumption) (by assumption) (by omega) ?_
  refine mx_iload_n (i := 1) (hi := rfl) (hl := rfl) (hd := dX10_beginBranch_18) ?_
  refine mx_iconstN 0 dX10_beginBranch_19 (by decide) ?_
  refine mx_iast d dX10_beginBranch_20 (by assumption) ⟨rfl, by omega, by omega⟩ ?_
  refine mx_vret dX10_beginBranch_21 rfl (⟨⟨rfl, ⟨?_, ?_, ?_⟩, fun b k hb => ?_⟩, rfl⟩)
  · rw [mx_u_at, if_neg (by omega), mx_u_at, if_neg (by omega), mx_u_at, if_pos ⟨rfl, rfl⟩]; rfl
  · rw [mx_u_at, if_neg (by omega), mx_u_at, if_pos ⟨rfl, rfl⟩]
  · rw [mx_u_at, if_pos ⟨rfl, rfl⟩]
  · rw [mx_u_at, if_neg (by omega), mx_u_at, if_neg (by omega), mx_u_at, if_neg (by omega)]

set_option maxHeartbeats 4000000 in
set_option maxRecDepth 100000 in
theorem mt_beginLevel (G : mx_G) (I : mx_I) (m : Nat) (hs : oMD G m) (d : Nat) (hd : d < 10) : mx_CTi yX10_beginLevel mX10_beginLevel 2 [.ref m, .int (nI d)] G I (fun rv I1 => rv = none ∧ pcM I1 (m + 10) d (0, 0, false) ∧ pcM I1 (m + 13) d (0, 0, true) ∧ (∀ b k, ¬ (m + 10 ≤ b ∧ b ≤ m + 15 ∧ k = d) → I1 b k = I b k)) := by
  refine mx_start (k := 0) (by decide) rfl rfl (fun h => nomatch h) (Nat.le_of_ble_eq_true rfl) ?_
  show mx_V mX10_beginLevel mx_S0 2 0 0 0 [some (.ref m), some (.int (nI d))] [] G I (fun rv Gz Iz => (fun rv I1 => rv = none ∧ pcM I1 (m + 10) d (0, 0, false) ∧ pcM I1 (m + 13) d (0, 0, true) ∧ (∀ b k, ¬ (m + 10 ≤ b ∧ b ≤ m + 15 ∧ k = d) → I1 b k = I b k)) rv Iz ∧ Gz = G) (fun _ _ _ => False)
  have hs0 := hs
  obtain ⟨tgm, -, -, -, -, -, -, -, -, -, ⟨r_orEmpty, t_orEmpty, l_orEmpty⟩, ⟨r_orFirst, t_orFirst, l_orFirst⟩, ⟨r_orLast, t_orLast, l_orLast⟩, -⟩ := hs
  refine mx_aload_n (i := 0) (hi := rfl) (hl := rfl) (hd := dX10_beginLevel_0) ?_
  refine mx_getR (ci := 10) (k := 17) (r := (m + 10)) dX10_beginLevel_1 k_1030 (by decide) rfl (by assumption) (by assumption) (by omega) ?_
  refine mx_iload_n (i := 1) (hi := rfl) (hl := rfl) (hd := dX10_beginLevel_4) ?_
  refine mx_iconstN 0 dX10_beginLevel_5 (by decide) ?_
  refine mx_zast d dX10_beginLevel_6 (by assumption) ⟨rfl, by omega, by omega⟩ (by decide) ?_
  refine mx_aload_n (i := 0) (hi := rfl) (hl := rfl) (hd := dX10_beginLevel_7) ?_
  refine mx_getR (ci := 10) (k := 18) (r := (m + 11)) dX10_beginLevel_8 k_1031 (by decide) rfl (by assumption) (by assumption) (by omega) ?_
  refine mx_iload_n (i := 1) (hi := rfl) (hl := rfl) (hd := dX10_beginLevel_11) ?_
  refine mx_iconstN 0 dX10_beginLevel_12 (by decide) ?_
  refine mx_iast d dX10_beginLevel_13 (by assumption) ⟨rfl, by omega, by omega⟩ ?_
  refine mx_aload_n (i := 0) (hi := rfl) (hl := rfl) (hd := dX10_beginLevel_14) ?_
  refine mx_getR (ci := 10) (k := 19) (r := (m + 12)) dX10_beginLevel_15 k_1032 (by decide) rfl (by assumption) (by assumption) (by omega) ?_
  refine mx_iload_n (i := 1) (hi := rfl) (hl := rfl) (hd := dX10_beginLevel_18) ?_
  refine mx_iconstN 0 dX10_beginLevel_19 (by decide) ?_
  refine mx_iast d dX10_beginLevel_20 (by assumption) ⟨rfl, by omega, by omega⟩ ?_
  refine mx_aload_n (i := 0) (hi := rfl) (hl := rfl) (hd := dX10_beginLevel_21) ?_
  refine mx_iload_n (i := 1) (hi := rfl) (hl := rfl) (hd := dX10_beginLevel_22) ?_
  refine mx_callVi (ci := 10) (As := [.int (nI d)]) (rest := []) dX10_beginLevel_23 (mt_beginBranch G _ m hs0 d hd) km_X10_beginBranch rfl k_1142 k_1144 k_32 (by assumption) rfl rfl (Nat.le_of_ble_eq_true rfl) (by decide) (fun r1 I2 h2 => ?_)
  obtain ⟨e9, q1, q2⟩ := h2
  subst e9
  refine mx_vret dX10_beginLevel_26 rfl (⟨⟨rfl, ⟨?_, ?_, ?_⟩, q1, fun b k hb => ?_⟩, rfl⟩)
  · rw [q2 _ _ (by omega), mx_u_at, if_neg (by omega), mx_u_at, if_neg (by omega), mx_u_at, if_pos ⟨rfl, rfl⟩]; rfl
  · rw [q2 _ _ (by omega), mx_u_at, if_neg (by omega), mx_u_at, if_pos ⟨rfl, rfl⟩]
  · rw [q2 _ _ (by omega), mx_u_at, if_pos ⟨rfl, rfl⟩]
  · rw [q2 _ _ (by omega)]; rw [mx_u_at, if_neg (by omega), mx_u_at, if_neg (by omega), mx_u_at, if_neg (by omega)]

set_option maxHeartbeats 4000000 in
set_option maxRecDepth 100000 in
theorem mt_endBranch (G : mx_G) (I : mx_I) (m : Nat) (hs : oMD G m) (d : Nat) (hd : d < 10) (x y : Pc) (hx : pcM I (m + 10) d x) (hy : pcM I (m + 13) d y) : mx_CTi yX10_endBranch mX10_endBranch 1 [.ref m, .int (nI d)] G I (fun rv I1 => rv = none ∧ pcM I1 (m + 10) d (rdO x y) ∧ (∀ b k, ¬ (m + 10 ≤ b ∧ b ≤ m + 12 ∧ k = d) → I1 b k = I b k)) := by
  refine mx_start (k := 0) (by decide) rfl rfl (fun h => nomatch h) (Nat.le_of_ble_eq_true rfl) ?_
  show mx_V mX10_endBranch mx_S0 1 0 0 0 [some (.ref m), some (.int (nI d))] [] G I (fun rv Gz Iz => (fun rv I1 => rv = none ∧ pcM I1 (m + 10) d (rdO x y) ∧ (∀ b k, ¬ (m + 10 ≤ b ∧ b ≤ m + 12 ∧ k = d) → I1 b k = I b k)) rv Iz ∧ Gz = G) (fun _ _ _ => False)
  obtain ⟨tgm, -, -, -, -, -, -, -, -, -, ⟨r_orEmpty, t_orEmpty, l_orEmpty⟩, ⟨r_orFirst, t_orFirst, l_orFirst⟩, ⟨r_orLast, t_orLast, l_orLast⟩, ⟨r_andEmpty, t_andEmpty, l_andEmpty⟩, ⟨r_andFirst, t_andFirst, l_andFirst⟩, ⟨r_andLast, t_andLast, l_andLast⟩, -⟩ := hs
  have J28 : ∀ (_ : Unit), mx_V mX10_endBranch mx_S0 1 0 0 28 [some (.ref m), some (.int (nI d))] [.int (mx_b (decide ((x.2.2 || y.2.2) = true))), .int (nI d), .ref (m + 10)] G I (fun rv Gz Iz => (fun rv I1 => rv = none ∧ pcM I1 (m + 10) d (rdO x y) ∧ (∀ b k, ¬ (m + 10 ≤ b ∧ b ≤ m + 12 ∧ k = d) → I1 b k = I b k)) rv Iz ∧ Gz = G) (fun _ _ _ => False) := by
    intro _ 
    refine mx_zast d dX10_endBranch_28 (by assumption) ⟨rfl, by omega, by omega⟩ (mx_b_nz _) ?_
    refine mx_aload_n (i := 0) (hi := rfl) (hl := rfl) (hd := dX10_endBranch_29) ?_
    refine mx_getR (ci := 10) (k := 18) (r := (m + 11)) dX10_endBranch_30 k_1031 (by decide) rfl (by assumption) (by assumption) (by omega) ?_
    refine mx_iload_n (i := 1) (hi := rfl) (hl := rfl) (hd := dX10_endBranch_33) ?_
    refine mx_dup2 (hva := rfl) (hvb := rfl) (hd := dX10_endBranch_34) ?_
    refine mx_ialdV d (nI x.1) dX10_endBranch_35 (by assumption) ⟨rfl, by omega, by omega⟩ (by rw [mx_u_at, if_neg (by omega)]; exact hx.2.1) ?_
    refine mx_aload_n (i := 0) (hi := rfl) (hl := rfl) (hd := dX10_endBranch_36) ?_
    refine mx_getR (ci := 10) (k := 21) (r := (m + 14)) dX10_endBranch_37 k_1034 (by decide) rfl (by assumption) (by assumption) (by omega) ?_
    refine mx_iload_n (i := 1) (hi := rfl) (hl := rfl) (hd := dX10_endBranch_40) ?_
    refine mx_ialdV d (nI y.1) dX10_endBranch_41 (by assumption) ⟨rfl, by omega, by omega⟩ (by rw [mx_u_at, if_neg (by omega)]; exact hy.2.1) ?_
    refine mx_iorN dX10_endBranch_42 ?_
    refine mx_iast d dX10_endBranch_43 (by assumption) ⟨rfl, by omega, by omega⟩ ?_
    refine mx_aload_n (i := 0) (hi := rfl) (hl := rfl) (hd := dX10_endBranch_44) ?_
    refine mx_getR (ci := 10) (k := 19) (r := (m + 12)) dX10_endBranch_45 k_1032 (by decide) rfl (by assumption) (by assumption) (by omega) ?_
    refine mx_iload_n (i := 1) (hi := rfl) (hl := rfl) (hd := dX10_endBranch_48) ?_
    refine mx_dup2 (hva := rfl) (hvb := rfl) (hd := dX10_endBranch_49) ?_
    refine mx_ialdV d (nI x.2.1) dX10_endBranch_50 (by assumption) ⟨rfl, by omega, by omega⟩ (by rw [mx_u_at, if_neg (by omega), mx_u_at, if_neg (by omega)]; exact hx.2.2) ?_
    refine mx_aload_n (i := 0) (hi := rfl) (hl := rfl) (hd := dX10_endBranch_51) ?_
    refine mx_getR (ci := 10) (k := 22) (r := (m + 15)) dX10_endBranch_52 k_1035 (by decide) rfl (by assumption) (by assumption) (by omega) ?_
    refine mx_iload_n (i := 1) (hi := rfl) (hl := rfl) (hd := dX10_endBranch_55) ?_
    refine mx_ialdV d (nI y.2.1) dX10_endBranch_56 (by assumption) ⟨rfl, by omega, by omega⟩ (by rw [mx_u_at, if_neg (by omega), mx_u_at, if_neg (by omega)]; exact hy.2.2) ?_
    refine mx_iorN dX10_endBranch_57 ?_
    refine mx_iast d dX10_endBranch_58 (by assumption) ⟨rfl, by omega, by omega⟩ ?_
    refine mx_vret dX10_endBranch_59 rfl (⟨⟨rfl, ⟨?_, ?_, ?_⟩, fun b k hb => ?_⟩, rfl⟩)
    · rw [mx_u_at, if_neg (by omega), mx_u_at, if_neg (by omega), mx_u_at, if_pos ⟨rfl, rfl⟩, mx_dec]; rfl
    · rw [mx_u_at, if_neg (by omega), mx_u_at, if_pos ⟨rfl, rfl⟩]; rfl
    · rw [mx_u_at, if_pos ⟨rfl, rfl⟩]; rfl
    · rw [mx_u_at, if_neg (by omega), mx_u_at, if_neg (by omega), mx_u_at, if_neg (by omega)]
  refine mx_aload_n (i := 0) (hi := rfl) (hl := rfl) (hd := dX10_endBranch_0) ?_
  refine mx_getR (ci := 10) (k := 17) (r := (m + 10)) dX10_endBranch_1 k_1030 (by decide) rfl (by assumption) (by assumption) (by omega) ?_
  refine mx_iload_n (i := 1) (hi := rfl) (hl := rfl) (hd := dX10_endBranch_4) ?_
  refine mx_aload_n (i := 0) (hi := rfl) (hl := rfl) (hd := dX10_endBranch_5) ?_
  refine mx_getR (ci := 10) (k := 17) (r := (m + 10)) dX10_endBranch_6 k_1030 (by decide) rfl (by assumption) (by assumption) (by omega) ?_
  refine mx_iload_n (i := 1) (hi := rfl) (hl := rfl) (hd := dX10_endBranch_9) ?_
  refine mx_zaldV d (mx_b (decide (x.2.2 = true)) : Int32) dX10_endBranch_10 (by assumption) ⟨rfl, by omega, by omega⟩ (by rw [mx_dec]; exact hx.1) ?_
  refine mx_ifB_ne 23 dX10_endBranch_11 (by decide) (fun c11 => ?_) (fun c11 => ?_)
  · skip
    refine mx_iconstN 1 dX10_endBranch_23 (by decide) ?_
    refine mx_goto (tgt := 28) dX10_endBranch_24 (by decide) ?_
    refine mx_top (y := mx_b (decide ((x.2.2 || y.2.2) = true))) (mx_bT (by first | (rw [c11]; rfl) | (rw [c20, Bool.or_true]))) ?_
    exact J28 ()
  · skip
    refine mx_aload_n (i := 0) (hi := rfl) (hl := rfl) (hd := dX10_endBranch_14) ?_
    refine mx_getR (ci := 10) (k := 20) (r := (m + 13)) dX10_endBranch_15 k_1033 (by decide) rfl (by assumption) (by assumption) (by omega) ?_
    refine mx_iload_n (i := 1) (hi := rfl) (hl := rfl) (hd := dX10_endBranch_18) ?_
    refine mx_zaldV d (mx_b (decide (y.2.2 = true)) : Int32) dX10_endBranch_19 (by assumption) ⟨rfl, by omega, by omega⟩ (by rw [mx_dec]; exact hy.1) ?_
    refine mx_ifB_eq 27 dX10_endBranch_20 (by decide) (fun c20 => ?_) (fun c20 => ?_)
    · skip
      refine mx_iconstN 0 dX10_endBranch_27 (by decide) ?_
      refine mx_top (y := mx_b (decide ((x.2.2 || y.2.2) = true))) (mx_bF (fun z9 => by rcases Bool.or_eq_true .. ▸ z9 with q | q; (exact c11 q); (exact c20 q))) ?_
      exact J28 ()
    · skip
      refine mx_iconstN 1 dX10_endBranch_23 (by decide) ?_
      refine mx_goto (tgt := 28) dX10_endBranch_24 (by decide) ?_
      refine mx_top (y := mx_b (decide ((x.2.2 || y.2.2) = true))) (mx_bT (by first | (rw [c11]; rfl) | (rw [c20, Bool.or_true]))) ?_
      exact J28 ()

set_option maxHeartbeats 4000000 in
set_option maxRecDepth 100000 in
theorem mt_letFollow (G : mx_G) (I : mx_I) (m : Nat) (hs : oMD G m) (L : Nat) (nx : Nat → Nat) (h11 : I m 11 = nI L) (hL : L ≤ 20) (hnx : ∀ s, 1 ≤ s → s ≤ L → I (m + 8) s = nI (nx s)) (so ot : Nat) (hso : so < 2 ^ 31) : mx_CTi yX10_letFollow mX10_letFollow 1 [.ref m, .int (nI so), .int (nI ot)] G I (fun rv I1 => rv = none ∧ (∀ s, 1 ≤ s → s ≤ L → I1 (m + 8) s = nI (if so.testBit s = true then nx s ||| ot else nx s)) ∧ (∀ b k, b ≠ m + 8 → I1 b k = I b k)) := by
  refine mx_start (k := 1) (by decide) rfl rfl (fun h => nomatch h) (Nat.le_of_ble_eq_true rfl) ?_
  show mx_V mX10_letFollow mx_S0 1 0 0 0 [some (.ref m), some (.int (nI so)), some (.int (nI ot)), none] [] G I (fun rv Gz Iz => (fun rv I1 => rv = none ∧ (∀ s, 1 ≤ s → s ≤ L → I1 (m + 8) s = nI (if so.testBit s = true then nx s ||| ot else nx s)) ∧ (∀ b k, b ≠ m + 8 → I1 b k = I b k)) rv Iz ∧ Gz = G) (fun _ _ _ => False)
  obtain ⟨tgm, -, -, -, -, -, -, -, ⟨r_next, t_next, l_next⟩, -⟩ := hs
  have L2 : ∀ (fq : Nat) (s : Nat) (I1 : mx_I), L + 1 - s < fq → (1 ≤ s) → (s ≤ L + 1) → (∀ t, 1 ≤ t → t < s → I1 (m + 8) t = nI (if so.testBit t = true then nx t ||| ot else nx t)) → (∀ t, s ≤ t → t ≤ L → I1 (m + 8) t = nI (nx t)) → (∀ b k, b ≠ m + 8 → I1 b k = I b k) → mx_V mX10_letFollow mx_S0 1 0 0 2 [some (.ref m), some (.int (nI so)), some (.int (nI ot)), some (.int (nI s))] [] G I1 (fun rv Gz Iz => (fun rv I1 => rv = none ∧ (∀ s, 1 ≤ s → s ≤ L → I1 (m + 8) s = nI (if so.testBit s = true then nx s ||| ot else nx s)) ∧ (∀ b k, b ≠ m + 8 → I1 b k = I b k)) rv Iz ∧ Gz = G) (fun _ _ _ => False) := by
    intro fq
    induction fq with
    | zero => intro s I1 hfu; exact absurd hfu (Nat.not_lt_zero _)
    | succ fq ih =>
      intro s I1 hfu hs1 hs2 ea eb eo
      have J31 : ∀ (_ : Unit), (s ≤ L) → mx_V mX10_letFollow mx_S0 1 0 0 31 [some (.ref m), some (.int (nI so)), some (.int (nI ot)), some (.int (nI s))] [.int (nI (if so.testBit s = true then ot else 0)), .int (nI (nx s)), .int (nI s), .ref (m + 8)] G I1 (fun rv Gz Iz => (fun rv I1 => rv = none ∧ (∀ s, 1 ≤ s → s ≤ L → I1 (m + 8) s = nI (if so.testBit s = true then nx s ||| ot else nx s)) ∧ (∀ b k, b ≠ m + 8 → I1 b k = I b k)) rv Iz ∧ Gz = G) (fun _ _ _ => False) := by
        intro _ hsL
        refine mx_iorN dX10_letFollow_31 ?_
        refine mx_iast s dX10_letFollow_32 (by assumption) ⟨rfl, by omega, by omega⟩ ?_
        refine mx_iincE (i := 3) (ls' := [some (.ref m), some (.int (nI so)), some (.int (nI ot)), some (.int (nI (s + 1)))]) 1 dX10_letFollow_33 rfl (by decide) (by decide) rfl rfl ?_
        refine mx_goto (tgt := 2) dX10_letFollow_36 (by decide) ?_
        exact ih (s + 1) _ (by omega) (by omega) (by omega) (fun t h1 h2 => by
          by_cases e : t = s
          · rw [e, mx_u_at, if_pos ⟨rfl, rfl⟩]
            by_cases q : so.testBit s = true
            · rw [if_pos q, if_pos q]
            · rw [if_neg q, if_neg q, Nat.or_zero]
          · rw [mx_u_at, if_neg (by omega)]; exact ea t h1 (by omega)) (fun t h1 h2 => by rw [mx_u_at, if_neg (by omega)]; exact eb t (by omega) h2) (fun b k hb => by rw [mx_u_at, if_neg (fun q => hb q.1)]; exact eo b k hb)
      refine mx_iload_n (i := 3) (hi := rfl) (hl := rfl) (hd := dX10_letFollow_2) ?_
      refine mx_aload_n (i := 0) (hi := rfl) (hl := rfl) (hd := dX10_letFollow_3) ?_
      refine mx_getV (ci := 10) (k := 11) (nI L) dX10_letFollow_4 k_1024 (by decide) rfl (by assumption) (by rw [eo _ _ (by omega)]; exact h11) ?_
      refine mx_cmpN_gt 39 dX10_letFollow_7 (by decide) (by omega) (by omega) (fun c7 => ?_) (fun c7 => ?_)
      · skip
        exact mx_vret dX10_letFollow_39 rfl (⟨⟨rfl, fun t h1 h2 => ea t h1 (by omega), eo⟩, rfl⟩)
      · skip
        refine mx_aload_n (i := 0) (hi := rfl) (hl := rfl) (hd := dX10_letFollow_10) ?_
        refine mx_getR (ci := 10) (k := 15) (r := (m + 8)) dX10_letFollow_11 k_1028 (by decide) rfl (by assumption) (by assumption) (by omega) ?_
        refine mx_iload_n (i := 3) (hi := rfl) (hl := rfl) (hd := dX10_letFollow_14) ?_
        refine mx_dup2 (hva := rfl) (hvb := rfl) (hd := dX10_letFollow_15) ?_
        refine mx_ialdV s (nI (nx s)) dX10_letFollow_16 (by assumption) ⟨rfl, by omega, by omega⟩ (eb s (Nat.le_refl _) (by omega)) ?_
        refine mx_iload_n (i := 1) (hi := rfl) (hl := rfl) (hd := dX10_letFollow_17) ?_
        refine mx_iload_n (i := 3) (hi := rfl) (hl := rfl) (hd := dX10_letFollow_18) ?_
        refine mx_ishrN dX10_letFollow_19 (by omega) (by omega) ?_
        refine mx_iconstN 1 dX10_letFollow_20 (by decide) ?_
        refine mx_iandN dX10_letFollow_21 ?_
        refine mx_top (mx_bit _ _) ?_
        refine mx_iconstN 1 dX10_letFollow_22 (by decide) ?_
        refine mx_icmp_ne (tgt := 30) dX10_letFollow_23 (by decide) (fun c23 => ?_) (fun c23 => ?_)
        · skip
          have d23 : ¬ so.testBit s = true := fun q => c23 (mx_bT q).symm
          refine mx_iconstN 0 dX10_letFollow_30 (by decide) ?_
          refine mx_top (y := nI (if so.testBit s = true then ot else 0)) (by rw [if_neg d23]) ?_
          exact J31 () (by omega)
        · skip
          have d23 := mx_b1 c23
          refine mx_iload_n (i := 2) (hi := rfl) (hl := rfl) (hd := dX10_letFollow_26) ?_
          refine mx_goto (tgt := 31) dX10_letFollow_27 (by decide) ?_
          refine mx_top (y := nI (if so.testBit s = true then ot else 0)) (by rw [if_pos d23]) ?_
          exact J31 () (by omega)
  refine mx_iconstN 1 dX10_letFollow_0 (by decide) ?_
  refine mx_istoreE_n (i := 3) (ls' := [some (.ref m), some (.int (nI so)), some (.int (nI ot)), some (.int (nI 1))]) (hi := rfl) (hd := dX10_letFollow_1) (hn := by decide) (hok := rfl) (hls := rfl) ?_
  exact L2 _ 1 _ (Nat.lt_succ_self _) (Nat.le_refl _) (by omega) (fun t h1 h2 => absurd h2 (by omega)) (fun t h1 h2 => hnx t h1 h2) (fun b k _ => rfl)

def adP (a : Pc) (em : Bool) (b e : Nat) : Pc := (a.1 ||| (if a.2.2 = true then b else 0), (if em = true then a.2.1 ||| e else e), a.2.2 && em)
theorem adP_eq (part br : Pc) (c : Nat) : adP br (emp part.2.2 c) part.1 part.2.1 = rdB part br c := by
  unfold adP rdB
  refine congrArg (Prod.mk _) (congrArg (fun z => (z, _)) ?_)
  split
  · rw [Nat.or_comm]
  · rw [Nat.or_zero]

set_option maxHeartbeats 4000000 in
set_option maxRecDepth 100000 in
theorem mt_addPart (G : mx_G) (I : mx_I) (m : Nat) (hs : oMD G m) (L : Nat) (nx : Nat → Nat) (h11 : I m 11 = nI L) (hL : L ≤ 20) (hnx : ∀ s, 1 ≤ s → s ≤ L → I (m + 8) s = nI (nx s)) (d b e : Nat) (em : Bool) (hd : d < 10) (a : Pc) (ha : pcM I (m + 13) d a) (ha21 : a.2.1 < 2 ^ 31) : mx_CTi yX10_addPart mX10_addPart 2 [.ref m, .int (nI d), .int (mx_b (decide (em = true))), .int (nI b), .int (nI e)] G I (fun rv I1 => rv = none ∧ (∀ s, 1 ≤ s → s ≤ L → I1 (m + 8) s = nI (if a.2.1.testBit s = true then nx s ||| b else nx s)) ∧ pcM I1 (m + 13) d (adP a em b e) ∧ (∀ b k, b ≠ m + 8 → ¬ (m + 13 ≤ b ∧ b ≤ m + 15 ∧ k = d) → I1 b k = I b k)) := by
  refine mx_start (k := 0) (by decide) rfl rfl (fun h => nomatch h) (Nat.le_of_ble_eq_true rfl) ?_
  show mx_V mX10_addPart mx_S0 2 0 0 0 [some (.ref m), some (.int (nI d)), some (.int (mx_b (decide (em = true)))), some (.int (nI b)), some (.int (nI e))] [] G I (fun rv Gz Iz => (fun rv I1 => rv = none ∧ (∀ s, 1 ≤ s → s ≤ L → I1 (m + 8) s = nI (if a.2.1.testBit s = true then nx s ||| b else nx s)) ∧ pcM I1 (m + 13) d (adP a em b e) ∧ (∀ b k, b ≠ m + 8 → ¬ (m + 13 ≤ b ∧ b ≤ m + 15 ∧ k = d) → I1 b k = I b k)) rv Iz ∧ Gz = G) (fun _ _ _ => False)
  have hs0 := hs
  obtain ⟨tgm, -, -, -, -, -, -, -, -, -, -, -, -, ⟨r_andEmpty, t_andEmpty, l_andEmpty⟩, ⟨r_andFirst, t_andFirst, l_andFirst⟩, ⟨r_andLast, t_andLast, l_andLast⟩, -⟩ := hs
  have J32 : ∀ (I1 : mx_I), (∀ s, 1 ≤ s → s ≤ L → I1 (m + 8) s = nI (if a.2.1.testBit s = true then nx s ||| b else nx s)) → (∀ b k, b ≠ m + 8 → I1 b k = I b k) → (pcM I1 (m + 13) d a) → mx_V mX10_addPart mx_S0 2 0 0 32 [some (.ref m), some (.int (nI d)), some (.int (mx_b (decide (em = true)))), some (.int (nI b)), some (.int (nI e))] [.int (nI (if a.2.2 = true then b else 0)), .int (nI a.1), .int (nI d), .ref (m + 14)] G I1 (fun rv Gz Iz => (fun rv I1 => rv = none ∧ (∀ s, 1 ≤ s → s ≤ L → I1 (m + 8) s = nI (if a.2.1.testBit s = true then nx s ||| b else nx s)) ∧ pcM I1 (m + 13) d (adP a em b e) ∧ (∀ b k, b ≠ m + 8 → ¬ (m + 13 ≤ b ∧ b ≤ m + 15 ∧ k = d) → I1 b k = I b k)) rv Iz ∧ Gz = G) (fun _ _ _ => False) := by
    intro I1 n1 n2 ha1
    have J57 : ∀ (_ : Unit), mx_V mX10_addPart mx_S0 2 0 0 57 [some (.ref m), some (.int (nI d)), some (.int (mx_b (decide (em = true)))), some (.int (nI b)), some (.int (nI e))] [.int (nI (if em = true then a.2.1 ||| e else e)), .int (nI d), .ref (m + 15)] G (mx_u I1 (m + 14) d (nI (a.1 ||| (if a.2.2 = true then b else 0)))) (fun rv Gz Iz => (fun rv I1 => rv = none ∧ (∀ s, 1 ≤ s → s ≤ L → I1 (m + 8) s = nI (if a.2.1.testBit s = true then nx s ||| b else nx s)) ∧ pcM I1 (m + 13) d (adP a em b e) ∧ (∀ b k, b ≠ m + 8 → ¬ (m + 13 ≤ b ∧ b ≤ m + 15 ∧ k = d) → I1 b k = I b k)) rv Iz ∧ Gz = G) (fun _ _ _ => False) := by
      intro _ 
      have J81 : ∀ (_ : Unit), mx_V mX10_addPart mx_S0 2 0 0 81 [some (.ref m), some (.int (nI d)), some (.int (mx_b (decide (em = true)))), some (.int (nI b)), some (.int (nI e))] [.int (mx_b (decide ((a.2.2 && em) = true))), .int (nI d), .ref (m + 13)] G (mx_u (mx_u I1 (m + 14) d (nI (a.1 ||| (if a.2.2 = true then b else 0)))) (m + 15) d (nI (if em = true then a.2.1 ||| e else e))) (fun rv Gz Iz => (fun rv I1 => rv = none ∧ (∀ s, 1 ≤ s → s ≤ L → I1 (m + 8) s = nI (if a.2.1.testBit s = true then nx s ||| b else nx s)) ∧ pcM I1 (m + 13) d (adP a em b e) ∧ (∀ b k, b ≠ m + 8 → ¬ (m + 13 ≤ b ∧ b ≤ m + 15 ∧ k = d) → I1 b k = I b k)) rv Iz ∧ Gz = G) (fun _ _ _ => False) := by
        intro _ 
        refine mx_zast d dX10_addPart_81 (by assumption) ⟨rfl, by omega, by omega⟩ (mx_b_nz _) ?_
        refine mx_vret dX10_addPart_82 rfl (⟨⟨rfl, fun s h1 h2 => ?_, ⟨?_, ?_, ?_⟩, fun b9 k hb hk => ?_⟩, rfl⟩)
        · rw [mx_u_at, if_neg (by omega), mx_u_at, if_neg (by omega), mx_u_at, if_neg (by omega)]; exact n1 s h1 h2
        · rw [mx_u_at, if_pos ⟨rfl, rfl⟩, mx_dec]; rfl
        · rw [mx_u_at, if_neg (by omega), mx_u_at, if_neg (by omega), mx_u_at, if_pos ⟨rfl, rfl⟩]; rfl
        · rw [mx_u_at, if_neg (by omega), mx_u_at, if_pos ⟨rfl, rfl⟩]; rfl
        · rw [mx_u_at, if_neg (by omega), mx_u_at, if_neg (by omega), mx_u_at, if_neg (by omega)]; exact n2 _ _ hb
      refine mx_iast d dX10_addPart_57 (by assumption) ⟨rfl, by omega, by omega⟩ ?_
      refine mx_aload_n (i := 0) (hi := rfl) (hl := rfl) (hd := dX10_addPart_58) ?_
      refine mx_getR (ci := 10) (k := 20) (r := (m + 13)) dX10_addPart_59 k_1033 (by decide) rfl (by assumption) (by assumption) (by omega) ?_
      refine mx_iload_n (i := 1) (hi := rfl) (hl := rfl) (hd := dX10_addPart_62) ?_
      refine mx_aload_n (i := 0) (hi := rfl) (hl := rfl) (hd := dX10_addPart_63) ?_
      refine mx_getR (ci := 10) (k := 20) (r := (m + 13)) dX10_addPart_64 k_1033 (by decide) rfl (by assumption) (by assumption) (by omega) ?_
      refine mx_iload_n (i := 1) (hi := rfl) (hl := rfl) (hd := dX10_addPart_67) ?_
      refine mx_zaldV d (mx_b (decide (a.2.2 = true)) : Int32) dX10_addPart_68 (by assumption) ⟨rfl, by omega, by omega⟩ (by rw [mx_u_at, if_neg (by omega)]; exact (by rw [mx_dec, mx_u_at, if_neg (by omega)]; exact ha1.1)) ?_
      refine mx_ifB_eq 80 dX10_addPart_69 (by decide) (fun c69 => ?_) (fun c69 => ?_)
      · skip
        refine mx_iconstN 0 dX10_addPart_80 (by decide) ?_
        refine mx_top (y := mx_b (decide ((a.2.2 && em) = true))) (mx_bF (fun z9 => by rw [Bool.and_eq_true] at z9; first | exact c69 z9.1 | exact c73 z9.2)) ?_
        exact J81 ()
      · skip
        refine mx_iload_n (i := 2) (hi := rfl) (hl := rfl) (hd := dX10_addPart_72) ?_
        refine mx_ifB_eq 80 dX10_addPart_73 (by decide) (fun c73 => ?_) (fun c73 => ?_)
        · skip
          refine mx_iconstN 0 dX10_addPart_80 (by decide) ?_
          refine mx_top (y := mx_b (decide ((a.2.2 && em) = true))) (mx_bF (fun z9 => by rw [Bool.and_eq_true] at z9; first | exact c69 z9.1 | exact c73 z9.2)) ?_
          exact J81 ()
        · skip
          refine mx_iconstN 1 dX10_addPart_76 (by decide) ?_
          refine mx_goto (tgt := 81) dX10_addPart_77 (by decide) ?_
          refine mx_top (y := mx_b (decide ((a.2.2 && em) = true))) (mx_bT (by rw [c69, c73]; rfl)) ?_
          exact J81 ()
    refine mx_iorN dX10_addPart_32 ?_
    refine mx_iast d dX10_addPart_33 (by assumption) ⟨rfl, by omega, by omega⟩ ?_
    refine mx_aload_n (i := 0) (hi := rfl) (hl := rfl) (hd := dX10_addPart_34) ?_
    refine mx_getR (ci := 10) (k := 22) (r := (m + 15)) dX10_addPart_35 k_1035 (by decide) rfl (by assumption) (by assumption) (by omega) ?_
    refine mx_iload_n (i := 1) (hi := rfl) (hl := rfl) (hd := dX10_addPart_38) ?_
    refine mx_iload_n (i := 2) (hi := rfl) (hl := rfl) (hd := dX10_addPart_39) ?_
    refine mx_ifB_eq 55 dX10_addPart_40 (by decide) (fun c40 => ?_) (fun c40 => ?_)
    · skip
      refine mx_iload (i := 4) (hl := rfl) (hd := dX10_addPart_55) ?_
      refine mx_top (y := nI (if em = true then a.2.1 ||| e else e)) (by rw [if_neg c40]) ?_
      exact J57 ()
    · skip
      refine mx_aload_n (i := 0) (hi := rfl) (hl := rfl) (hd := dX10_addPart_43) ?_
      refine mx_getR (ci := 10) (k := 22) (r := (m + 15)) dX10_addPart_44 k_1035 (by decide) rfl (by assumption) (by assumption) (by omega) ?_
      refine mx_iload_n (i := 1) (hi := rfl) (hl := rfl) (hd := dX10_addPart_47) ?_
      refine mx_ialdV d (nI a.2.1) dX10_addPart_48 (by assumption) ⟨rfl, by omega, by omega⟩ (by rw [mx_u_at, if_neg (by omega)]; exact ha1.2.2) ?_
      refine mx_iload (i := 4) (hl := rfl) (hd := dX10_addPart_49) ?_
      refine mx_iorN dX10_addPart_51 ?_
      refine mx_goto (tgt := 57) dX10_addPart_52 (by decide) ?_
      refine mx_top (y := nI (if em = true then a.2.1 ||| e else e)) (by rw [if_pos c40]) ?_
      exact J57 ()
  refine mx_aload_n (i := 0) (hi := rfl) (hl := rfl) (hd := dX10_addPart_0) ?_
  refine mx_aload_n (i := 0) (hi := rfl) (hl := rfl) (hd := dX10_addPart_1) ?_
  refine mx_getR (ci := 10) (k := 22) (r := (m + 15)) dX10_addPart_2 k_1035 (by decide) rfl (by assumption) (by assumption) (by omega) ?_
  refine mx_iload_n (i := 1) (hi := rfl) (hl := rfl) (hd := dX10_addPart_5) ?_
  refine mx_ialdV d (nI a.2.1) dX10_addPart_6 (by assumption) ⟨rfl, by omega, by omega⟩ ha.2.2 ?_
  refine mx_iload_n (i := 3) (hi := rfl) (hl := rfl) (hd := dX10_addPart_7) ?_
  refine mx_callVi (ci := 10) (As := [.int (nI a.2.1), .int (nI b)]) (rest := []) dX10_addPart_8 (mt_letFollow G I m hs0 L nx h11 hL hnx a.2.1 b ha21) km_X10_letFollow rfl k_1157 k_1159 k_34 (by assumption) rfl rfl (Nat.le_of_ble_eq_true rfl) (by decide) (fun r1 I1 h2 => ?_)
  obtain ⟨e9, n1, n2⟩ := h2
  subst e9
  have ha1 : pcM I1 (m + 13) d a := ha.k (fun b9 h1 h2 => n2 _ _ (by omega))
  refine mx_aload_n (i := 0) (hi := rfl) (hl := rfl) (hd := dX10_addPart_11) ?_
  refine mx_getR (ci := 10) (k := 21) (r := (m + 14)) dX10_addPart_12 k_1034 (by decide) rfl (by assumption) (by assumption) (by omega) ?_
  refine mx_iload_n (i := 1) (hi := rfl) (hl := rfl) (hd := dX10_addPart_15) ?_
  refine mx_dup2 (hva := rfl) (hvb := rfl) (hd := dX10_addPart_16) ?_
  refine mx_ialdV d (nI a.1) dX10_addPart_17 (by assumption) ⟨rfl, by omega, by omega⟩ ha1.2.1 ?_
  refine mx_aload_n (i := 0) (hi := rfl) (hl := rfl) (hd := dX10_addPart_18) ?_
  refine mx_getR (ci := 10) (k := 20) (r := (m + 13)) dX10_addPart_19 k_1033 (by decide) rfl (by assumption) (by assumption) (by omega) ?_
  refine mx_iload_n (i := 1) (hi := rfl) (hl := rfl) (hd := dX10_addPart_22) ?_
  refine mx_zaldV d (mx_b (decide (a.2.2 = true)) : Int32) dX10_addPart_23 (by assumption) ⟨rfl, by omega, by omega⟩ (by rw [mx_dec]; exact ha1.1) ?_
  refine mx_ifB_eq 31 dX10_addPart_24 (by decide) (fun c24 => ?_) (fun c24 => ?_)
  · skip
    refine mx_iconstN 0 dX10_addPart_31 (by decide) ?_
    refine mx_top (y := nI (if a.2.2 = true then b else 0)) (by rw [if_neg c24]) ?_
    exact J32 _ n1 n2 ha1
  · skip
    refine mx_iload_n (i := 3) (hi := rfl) (hl := rfl) (hd := dX10_addPart_27) ?_
    refine mx_goto (tgt := 32) dX10_addPart_28 (by decide) ?_
    refine mx_top (y := nI (if a.2.2 = true then b else 0)) (by rw [if_pos c24]) ?_
    exact J32 _ n1 n2 ha1

def sgK (c : Nat) : Int32 := if peA c then nI (sgO c) else -9
theorem in_n {c : Nat} {a b : Int64} {x y : Nat} (hc : c < 2 ^ 31) (ha : a.toInt = (x : Int)) (hb : b.toInt = (y : Int)) : (a.toInt ≤ (nI c).toInt64.toInt ∧ (nI c).toInt64.toInt ≤ b.toInt) ↔ (x ≤ c ∧ c ≤ y) := by
  rw [Int32.toInt_toInt64, ha, hb, nI_toInt hc]
  omega
theorem sgK_iff {c : Nat} : sgK c = -9 ↔ ¬ peA c := by
  unfold sgK
  by_cases q : peA c
  · rw [if_pos q]
    have h := sgO_8 c
    refine ⟨fun z => ?_, fun z => absurd q z⟩
    have h1 := nI_toInt (n := sgO c) (by omega)
    rw [z] at h1
    have h2 : (-9 : Int32).toInt = -9 := by decide
    omega
  · rw [if_neg q]; exact ⟨fun _ => q, fun _ => rfl⟩
theorem sgK_n {c : Nat} (h : peA c) : sgK c = nI (sgO c) := if_pos h

set_option maxHeartbeats 4000000 in
set_option maxRecDepth 100000 in
theorem mt_signOf (G : mx_G) (I : mx_I) (c : Nat) (hc : c < 256) : mx_CTp yX10_signOf mX10_signOf 2 [.int (nI c)] G I (some (.int (sgK c))) := by
  refine mx_start (k := 0) (by decide) rfl rfl (fun h => nomatch h) (Nat.le_of_ble_eq_true rfl) ?_
  show mx_V mX10_signOf mx_S0 2 0 0 0 [some (.int (nI c))] [] G I (fun rv Gz Iz => rv = some (.int (sgK c)) ∧ Gz = G ∧ Iz = I) (fun _ _ _ => False)
  refine mx_iload_n (i := 0) (hi := rfl) (hl := rfl) (hd := dX10_signOf_0) ?_
  refine mx_i2l (hv := rfl) (hd := dX10_signOf_1) ?_
  refine mx_ldc2 (v := (97)) k_1149 dX10_signOf_2 ?_
  refine mx_ldc2 (v := (100)) k_1150 dX10_signOf_5 ?_
  refine mx_callSp (As := [.long ((nI c).toInt64), .long (97), .long (100)]) (rest := []) dX10_signOf_8 (mt_in G I ((nI c).toInt64) (97 : Int64) (100 : Int64)) km_X10_in rfl k_1119 k_1120 rfl rfl (Nat.le_of_ble_eq_true rfl) (by decide) ?_
  refine mx_top (y := mx_b (decide (97 ≤ c ∧ c ≤ 100))) (congrArg mx_b (decide_eq_decide.mpr (in_n (by omega) rfl rfl))) ?_
  refine mx_ifB_eq 21 dX10_signOf_11 (by decide) (fun c11 => ?_) (fun c11 => ?_)
  · skip
    refine mx_iload_n (i := 0) (hi := rfl) (hl := rfl) (hd := dX10_signOf_21) ?_
    refine mx_i2l (hv := rfl) (hd := dX10_signOf_22) ?_
    refine mx_ldc2 (v := (65)) k_1151 dX10_signOf_23 ?_
    refine mx_ldc2 (v := (68)) k_1152 dX10_signOf_26 ?_
    refine mx_callSp (As := [.long ((nI c).toInt64), .long (65), .long (68)]) (rest := []) dX10_signOf_29 (mt_in G I ((nI c).toInt64) (65 : Int64) (68 : Int64)) km_X10_in rfl k_1119 k_1120 rfl rfl (Nat.le_of_ble_eq_true rfl) (by decide) ?_
    refine mx_top (y := mx_b (decide (65 ≤ c ∧ c ≤ 68))) (congrArg mx_b (decide_eq_decide.mpr (in_n (by omega) rfl rfl))) ?_
    refine mx_ifB_eq 44 dX10_signOf_32 (by decide) (fun c32 => ?_) (fun c32 => ?_)
    · skip
      refine mx_iload_n (i := 0) (hi := rfl) (hl := rfl) (hd := dX10_signOf_44) ?_
      refine mx_bipushN 46 dX10_signOf_45 (by decide) ?_
      refine mx_cmpN_ne 55 dX10_signOf_47 (by decide) (by omega) (by omega) (fun c47 => ?_) (fun c47 => ?_)
      · skip
        refine mx_bipush (v := (-9)) (by decide) dX10_signOf_55 ?_
        exact mx_iret dX10_signOf_57 rfl rfl (⟨by unfold sgK; rw [if_neg (by omega)], rfl, rfl⟩)
      · skip
        refine mx_bipushN 8 dX10_signOf_50 (by decide) ?_
        refine mx_goto (tgt := 57) dX10_signOf_52 (by decide) ?_
        exact mx_iret dX10_signOf_57 rfl rfl (⟨by unfold sgK sgO; rw [if_pos (by omega), if_neg c11, if_neg c32], rfl, rfl⟩)
    · skip
      refine mx_iconstN 4 dX10_signOf_35 (by decide) ?_
      refine mx_iload_n (i := 0) (hi := rfl) (hl := rfl) (hd := dX10_signOf_36) ?_
      refine mx_iaddN dX10_signOf_37 ?_
      refine mx_bipushN 65 dX10_signOf_38 (by decide) ?_
      refine mx_isubN dX10_signOf_40 (by omega) ?_
      refine mx_goto (tgt := 57) dX10_signOf_41 (by decide) ?_
      exact mx_iret dX10_signOf_57 rfl rfl (⟨by unfold sgK sgO; rw [if_pos (by omega), if_neg c11, if_pos c32], rfl, rfl⟩)
  · skip
    refine mx_iload_n (i := 0) (hi := rfl) (hl := rfl) (hd := dX10_signOf_14) ?_
    refine mx_bipushN 97 dX10_signOf_15 (by decide) ?_
    refine mx_isubN dX10_signOf_17 (by omega) ?_
    refine mx_goto (tgt := 57) dX10_signOf_18 (by decide) ?_
    exact mx_iret dX10_signOf_57 rfl rfl (⟨by unfold sgK sgO; rw [if_pos (by omega), if_pos c11], rfl, rfl⟩)
