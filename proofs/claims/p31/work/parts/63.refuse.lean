/-! THE LAW: what is refused, whatever the graph is like -/
theorem ti_n1 : (-1 : Int32).toInt = -1 := rfl
theorem ti_m (k : Nat) (h : k < 99) : ((-1 : Int32) - nI k).toInt < 0 := by
  have : ∀ k : Fin 99, ((-1 : Int32) - nI k.val).toInt < 0 := by decide +kernel
  exact this ⟨k, h⟩
theorem iI_l {x : Nat} (h : x < 2 ^ 31) : (nI x).toInt64.toInt = (x : Int) := by rw [Int32.toInt_toInt64, nI_toInt h]
theorem l_add {c : Int64} {x : Nat} (h : x < 2 ^ 31) (h0 : 0 ≤ c.toInt) (h1 : c.toInt < 2 ^ 40) : (c + (nI x).toInt64).toInt = c.toInt + x := by
  rw [Int64.toInt_add, iI_l h]
  exact Int.bmod_eq_of_le (by omega) (by omega)
theorem l_neg {x : Nat} (h : x < 2 ^ 31) : ((-1 : Int64) - (nI x).toInt64).toInt < 0 := by
  rw [Int64.toInt_sub, iI_l h, show (-1 : Int64).toInt = -1 from rfl, Int.bmod_eq_of_le (by omega) (by omega)]
  omega
theorem ff_step {z : Zs} (hN : gN (zG z) ≤ 24) (w : Int32) : fl_step z (nI (gN (zG z))) w = 1 := if_pos (by rw [nI_toInt (by omega)]; omega)
theorem ff_cut {z : Zs} (hN : gN (zG z) ≤ 24) (k : Nat) (hk : k < 9) : fl_one (gN (zG z)) (nI (gN (zG z) + k)) = 1 := if_pos (by rw [nI_toInt (by omega)]; omega)
theorem ff_price {z : Zs} (hN : gN (zG z) ≤ 24) (c : Int32) : fl_setCost z (nI (gN (zG z))) c = 1 := if_pos (by rw [nI_toInt (by omega)]; omega)
theorem ff_price2 {z : Zs} (hN : gN (zG z) ≤ 24) {s : Nat} (hs : s < gN (zG z)) : fl_setCost z (nI s) (nI 10) = 2 := by
  unfold fl_setCost
  rw [if_neg (fun q => q (by rw [nI_toInt (by omega)]; omega)), if_neg (by decide)]
theorem ff_step2 {z : Zs} (hN : gN (zG z) ≤ 24) {s : Nat} (hs : s < gN (zG z)) : fl_step z (nI s) (nI 4) = 2 := by
  unfold fl_step
  rw [if_neg (fun q => q (by rw [nI_toInt (by omega)]; omega)), if_pos (by decide)]
theorem ff_turn {z : Zs} : fl_turn z (-1) = 1 := if_pos (fun q => absurd q.1 (by decide))
theorem ff_sign (k : Nat) (hk : k < 99) : fl_patternAt ((-1) - nI k) = 2 := if_pos (by have := ti_m k hk; omega)
theorem ff_swap (k j : Nat) (hk : k < 4) (hj : j < 9) : fl_exchange (nI k) (nI (4 + j)) = 2 := if_pos (by rw [nI_toInt (by omega), nI_toInt (by omega)]; omega)
theorem ff_about (k : Nat) (hk : k < 99) : fl_about (nI (8 + k)) = 2 := if_pos (by rw [nI_toInt (by omega)]; omega)
theorem ff_keep (k : Nat) (hk : k < 9) : fl_slot (nI (2 + k)) = 1 := if_pos (by rw [nI_toInt (by omega)]; omega)
theorem ff_back {z : Zs} : fl_restore z (-1) = 1 := if_pos (fun q => absurd q.1 (by decide))
theorem ff_append {z : Zs} (k : Nat) (hk : k < 99) : fl_append z (nI (256 + k)) = 2 := if_pos (by rw [nI_toInt (by omega)]; omega)
theorem ff_sim : fl_simulate (nI 21) = 2 := by decide
theorem ff_scr1 : fl_runScript (nI 4) (0 : Int64) = 2 := by decide
theorem ff_scr2 {x : Nat} (h : x < 2 ^ 31) : fl_runScript (nI 1) ((100000) + (nI x).toInt64) = 2 := by
  unfold fl_runScript
  rw [if_neg (by decide), if_pos ?_]
  rw [l_add h (by decide) (by decide), show (100000 : Int64).toInt = 100000 from rfl, show (nI 1).toInt.toNat = 1 from rfl]
  omega
theorem ff_scr3 {x : Nat} (h : x < 2 ^ 31) : fl_runScript (nI 2) ((-1) - (nI x).toInt64) = 2 := by
  unfold fl_runScript
  rw [if_neg (by decide), if_pos ?_]
  have := l_neg h
  omega
theorem ff_long {z : Zs} : fl_two z (-1) (nI 0) = 1 := if_pos (fun q => absurd q.1.1 (by decide))
theorem ff_two0 {z : Zs} (hP : gP (zG z) ≤ 8) (q : Int32) : fl_two z (nI (gP (zG z))) q = 1 := if_pos (by rw [nI_toInt (by omega)]; omega)
theorem ff_person {z : Zs} (hP : gP (zG z) ≤ 8) (w : Int32) : fl_person z (nI (gP (zG z))) w = 1 := if_pos (by rw [nI_toInt (by omega)]; omega)
theorem ff_find {z : Zs} (hP : gP (zG z) ≤ 8) (k q : Int32) : fl_find z (nI (gP (zG z))) k q = 1 := if_pos (by rw [nI_toInt (by omega)]; omega)
theorem ff_path {z : Zs} (hP : gP (zG z) ≤ 8) (q j : Int32) : fl_pathAt z (nI (gP (zG z))) q j = 1 := if_pos (by rw [nI_toInt (by omega)]; omega)
theorem ff_paths {z : Zs} (hP : gP (zG z) ≤ 8) (q j : Int32) : fl_paths z (nI (gP (zG z))) q j = 1 := if_pos (by rw [nI_toInt (by omega)]; omega)
theorem ff_build {z : Zs} (hP : gP (zG z) ≤ 8) (k q c : Int32) : gWhy (zG z) (nI (gP (zG z))) k q c = 1 := if_pos (by rw [nI_toInt (by omega)]; omega)
theorem ff_follow {z : Zs} (hP : gP (zG z) ≤ 8) (n : Int32) (r : Int64) : fl_follow z (nI (gP (zG z))) n r = 1 := if_pos (by rw [nI_toInt (by omega)]; omega)
theorem ff_person2 {z : Zs} (hP : gP (zG z) ≤ 8) {p : Nat} (hp : p < gP (zG z)) (k : Nat) (hk : k < 9) : fl_person z (nI p) (nI (4 + k)) = 2 := by
  unfold fl_person
  rw [if_neg (fun q => q (by rw [nI_toInt (by omega)]; omega)), if_pos (by rw [nI_toInt (by omega)]; omega)]
theorem ff_find2 {z : Zs} (hP : gP (zG z) ≤ 8) {p : Nat} (hp : p < gP (zG z)) (k : Int32) : fl_find z (nI p) k (nI p) = 2 := by
  unfold fl_find
  rw [if_neg (fun q => q (by rw [nI_toInt (by omega)]; omega)), if_pos (fun q => q.1 rfl)]
theorem ff_build2 {z : Zs} (hP : gP (zG z) ≤ 8) {p : Nat} (hp : p < gP (zG z)) (k c : Int32) : gWhy (zG z) (nI p) k (nI p) c = 2 := by
  unfold gWhy
  rw [if_neg (fun q => q (by rw [nI_toInt (by omega)]; omega)), if_pos (Or.inl rfl)]
theorem ff_path2 {z : Zs} (hP : gP (zG z) ≤ 8) {p : Nat} (hp : p < gP (zG z)) (k : Nat) (hk : k < 99) : fl_pathAt z (nI p) (nI p) ((-1) - nI k) = 2 := by
  unfold fl_pathAt
  rw [if_neg (fun q => q (by rw [nI_toInt (by omega)]; omega)), if_pos (by have := ti_m k hk; omega)]
theorem ff_paths2 {z : Zs} (hP : gP (zG z) ≤ 8) {p : Nat} (hp : p < gP (zG z)) : fl_paths z (nI p) (nI p) (nI 5) = 2 := by
  unfold fl_paths
  rw [if_neg (fun q => q (by rw [nI_toInt (by omega)]; omega)), if_pos (by decide)]
theorem ff_follow2 {z : Zs} (hP : gP (zG z) ≤ 8) {p x : Nat} (hp : p < gP (zG z)) (h : x < 2 ^ 31) : fl_follow z (nI p) (nI 1) ((1000) + (nI x).toInt64) = 2 := by
  unfold fl_follow
  rw [if_neg (fun q => q (by rw [nI_toInt (by omega)]; omega)), if_neg (by decide), if_pos ?_]
  rw [l_add h (by decide) (by decide), show (1000 : Int64).toInt = 1000 from rfl, show (nI 1).toInt.toNat = 1 from rfl]
  omega

theorem cW.P8 {G : mx_G} {I : mx_I} {a : Nat} {z : Zs} (h : cW G I a z) : gP (zG z) ≤ 8 := h.2.2.1.1.1.1
theorem cW.N24 {G : mx_G} {I : mx_I} {a : Nat} {z : Zs} (h : cW G I a z) : gN (zG z) ≤ 24 := h.2.2.1.2.1.1
theorem i32_N (x : Int32) : ∃ n, x = nI n := ⟨x.toBitVec.toNat, Int32.toBitVec_inj.mp (by
  show x.toBitVec = BitVec.ofNat 32 x.toBitVec.toNat
  rw [BitVec.ofNat_toNat, BitVec.setWidth_eq])⟩
theorem and_mx (x : Int32) : ∃ k, k < 2 ^ 31 ∧ x &&& nI 2147483647 = nI k := by
  obtain ⟨n, rfl⟩ := i32_N x
  exact ⟨n &&& 2147483647, Nat.and_lt_two_pow (n := 31) n (by decide), nI_and n 2147483647⟩
theorem cl_ex (x : Int32) : ∃ k, k < 2 ^ 31 ∧ some (Value.int (x &&& nI 2147483647)) = some (Value.int (nI k)) := by
  obtain ⟨k, h1, h2⟩ := and_mx x
  exact ⟨k, h1, by rw [h2]⟩
theorem cl_exN (a : Nat) : ∃ k, k < 2 ^ 31 ∧ some (Value.int (nI (a &&& 2147483647))) = some (Value.int (nI k)) := ⟨a &&& 2147483647, Nat.and_lt_two_pow (n := 31) a (by decide), rfl⟩

set_option maxHeartbeats 400000 in
set_option maxRecDepth 100000 in
theorem lk_cell (Sc : mx_Sc) (hS : mx_hS Sc) (hL : Sc.2.1 ≤ 260) (G : mx_G) (I : mx_I) (k : Nat) (hk : k < 1000) : mx_CTs Sc yL_cell mL_cell 3 0 0 [.ref Sc.1, .int (nI k)] G I (fun rv Gz Iz => (∃ n, n < 2 ^ 31 ∧ rv = some (.int (nI n))) ∧ Gz = G ∧ Iz = I) (fun _ _ _ => False) := by
  refine mx_startS (k := 0) (by decide) rfl rfl (fun h => nomatch h) (Nat.le_of_ble_eq_true rfl) ?_
  show mx_V mL_cell Sc 3 0 0 0 [some (.ref Sc.1), some (.int (nI k))] [] G I (fun rv Gz Iz => (∃ n, n < 2 ^ 31 ∧ rv = some (.int (nI n))) ∧ Gz = G ∧ Iz = I) (fun _ _ _ => False)
  refine mx_iload_n (i := 1) (hi := rfl) (hl := rfl) (hd := dL_cell_0) ?_
  refine mx_aload_n (i := 0) (hi := rfl) (hl := rfl) (hd := dL_cell_1) ?_
  refine mx_sclen hS dL_cell_2 ?_
  refine mx_cmpN_ge 12 dL_cell_3 (by decide) (by omega) (by omega) (fun c3 => ?_) (fun c3 => ?_)
  · skip
    refine mx_ldc (v := (15518127)) k_659 dL_cell_12 ?_
    refine mx_top (y := nI 15518127) (by decide) ?_
    refine mx_iload_n (i := 1) (hi := rfl) (hl := rfl) (hd := dL_cell_14) ?_
    refine mx_iconstN 3 dL_cell_15 (by decide) ?_
    refine mx_iaddN dL_cell_16 ?_
    refine mx_imulN dL_cell_17 ?_
    refine mx_sipushN 10391 dL_cell_18 (by decide) ?_
    refine mx_iaddN dL_cell_21 ?_
    refine mx_ldc (v := (2147483647)) k_660 dL_cell_22 ?_
    refine mx_top (y := nI 2147483647) (by decide) ?_
    refine mx_iandN dL_cell_24 ?_
    exact mx_iret dL_cell_25 rfl rfl (⟨cl_exN _, rfl, rfl⟩)
  · skip
    refine mx_aload_n (i := 0) (hi := rfl) (hl := rfl) (hd := dL_cell_6) ?_
    refine mx_iload_n (i := 1) (hi := rfl) (hl := rfl) (hd := dL_cell_7) ?_
    refine mx_scld k hS dL_cell_8 ⟨rfl, by omega, by omega⟩ ?_
    refine mx_goto (tgt := 22) dL_cell_9 (by decide) ?_
    refine mx_ldc (v := (2147483647)) k_660 dL_cell_22 ?_
    refine mx_top (y := nI 2147483647) (by decide) ?_
    refine mx_iand dL_cell_24 ?_
    exact mx_iret dL_cell_25 rfl rfl (⟨cl_ex _, rfl, rfl⟩)

set_option maxHeartbeats 1000000 in
set_option maxRecDepth 100000 in
theorem lr_refuses (G : mx_G) (I : mx_I) (a : Nat) (z : Zs) (hW : cW G I a z) (x : Nat) (hx : x < 2 ^ 31) : mx_CT yL_refuses mL_refuses 11 120 720 [.ref a, .int (nI x)] G I (fun rv Gz Iz => rv = some (.int (nI 1)) ∧ cP G I a z Gz Iz) (fun _ _ _ => False) := by
  refine mx_start (k := 4) (by decide) rfl rfl (fun h => nomatch h) (Nat.le_of_ble_eq_true rfl) ?_
  show mx_V mL_refuses mx_S0 11 120 720 0 [some (.ref a), some (.int (nI x)), none, none, none, none] [] G I (fun rv Gz Iz => rv = some (.int (nI 1)) ∧ cP G I a z Gz Iz) (fun _ _ _ => False)
  have hP8 := hW.P8
  have hN24 := hW.N24
  refine mx_aload_n (i := 0) (hi := rfl) (hl := rfl) (hd := dL_refuses_0) ?_
  refine mx_iconstN 2 dL_refuses_1 (by decide) ?_
  refine mx_iconstN 0 dL_refuses_2 (by decide) ?_
  refine mx_iconstN 0 dL_refuses_3 (by decide) ?_
  refine mx_iconstN 0 dL_refuses_4 (by decide) ?_
  refine mx_callS (bc := 119) (bs := 714) (As := [.ref a, .int (nI 2), .int (nI 0), .int (nI 0), .int (nI 0)]) (rest := []) (b1 := 1) (b2 := 6) dL_refuses_5 (lc_about G I a z hW (nI 0) (nI 0) (nI 0)) km_L_call rfl k_664 k_665 rfl rfl (Nat.le_of_ble_eq_true rfl) (by decide) (fun _ _ _ q => q.elim) (fun r1 G1 I1 h2 => ?_)
  obtain ⟨e9, hQ1⟩ := h2
  rw [tv_0 (by decide : fl_about (nI 0) = 0)] at e9
  rw [show an_about z (nI 0).toInt.toNat = nI (gP (zG z)) from rfl] at e9
  subst e9
  have hA1 := hQ1
  have hW1 := hQ1.1
  refine mx_istoreE_n (i := 2) (ls' := [some (.ref a), some (.int (nI x)), some (.int (nI (gP (zG z)))), none, none, none]) (hi := rfl) (hd := dL_refuses_8) (hn := by decide) (hok := rfl) (hls := rfl) ?_
  refine mx_aload_n (i := 0) (hi := rfl) (hl := rfl) (hd := dL_refuses_9) ?_
  refine mx_iconstN 2 dL_refuses_10 (by decide) ?_
  refine mx_iconstN 1 dL_refuses_11 (by decide) ?_
  refine mx_iconstN 0 dL_refuses_12 (by decide) ?_
  refine mx_iconstN 0 dL_refuses_13 (by decide) ?_
  refine mx_callS (bc := 118) (bs := 708) (As := [.ref a, .int (nI 2), .int (nI 1), .int (nI 0), .int (nI 0)]) (rest := []) (b1 := 1) (b2 := 6) dL_refuses_14 (lc_about G1 I1 a z hW1 (nI 1) (nI 0) (nI 0)) km_L_call rfl k_664 k_665 rfl rfl (Nat.le_of_ble_eq_true rfl) (by decide) (fun _ _ _ q => q.elim) (fun r3 G2 I2 h4 => ?_)
  obtain ⟨e9, hQ2⟩ := h4
  rw [tv_0 (by decide : fl_about (nI 1) = 0)] at e9
  rw [show an_about z (nI 1).toInt.toNat = nI (gN (zG z)) from rfl] at e9
  subst e9
  have hA2 := hA1.tr hQ2
  have hW2 := hQ2.1
  refine mx_istoreE_n (i := 3) (ls' := [some (.ref a), some (.int (nI x)), some (.int (nI (gP (zG z)))), some (.int (nI (gN (zG z)))), none, none]) (hi := rfl) (hd := dL_refuses_17) (hn := by decide) (hok := rfl) (hls := rfl) ?_
  refine mx_aload_n (i := 0) (hi := rfl) (hl := rfl) (hd := dL_refuses_18) ?_
  refine mx_iconstN 3 dL_refuses_19 (by decide) ?_
  refine mx_iload_n (i := 3) (hi := rfl) (hl := rfl) (hd := dL_refuses_20) ?_
  refine mx_iload_n (i := 1) (hi := rfl) (hl := rfl) (hd := dL_refuses_21) ?_
  refine mx_iconstN 0 dL_refuses_22 (by decide) ?_
  refine mx_callS (bc := 116) (bs := 696) (As := [.ref a, .int (nI 3), .int (nI (gN (zG z))), .int (nI x), .int (nI 0)]) (rest := []) (b1 := 2) (b2 := 12) dL_refuses_23 (lc_step G2 I2 a z hW2 (nI (gN (zG z))) (nI x) (nI 0)) km_L_call rfl k_664 k_665 rfl rfl (Nat.le_of_ble_eq_true rfl) (by decide) (fun _ _ _ q => q.elim) (fun r5 G3 I3 h6 => ?_)
  obtain ⟨e9, hQ3⟩ := h6
  rw [tv_1 (ff_step hN24 _ : fl_step z (nI (gN (zG z))) (nI x) = 1)] at e9
  subst e9
  have hA3 := hA2.tr hQ3
  have hW3 := hQ3.1
  refine mx_ldc (v := (-9999001)) k_723 dL_refuses_26 ?_
  refine mx_icmp_ne (tgt := 100) dL_refuses_28 (by decide) (fun c28 => ?_) (fun c28 => ?_)
  · skip
    exact absurd rfl c28
  · skip
    refine mx_aload_n (i := 0) (hi := rfl) (hl := rfl) (hd := dL_refuses_31) ?_
    refine mx_iconstN 4 dL_refuses_32 (by decide) ?_
    refine mx_iload_n (i := 2) (hi := rfl) (hl := rfl) (hd := dL_refuses_33) ?_
    refine mx_iconstN 0 dL_refuses_34 (by decide) ?_
    refine mx_iconstN 0 dL_refuses_35 (by decide) ?_
    refine mx_callS (bc := 114) (bs := 684) (As := [.ref a, .int (nI 4), .int (nI (gP (zG z))), .int (nI 0), .int (nI 0)]) (rest := []) (b1 := 2) (b2 := 12) dL_refuses_36 (lc_person G3 I3 a z hW3 (nI (gP (zG z))) (nI 0) (nI 0)) km_L_call rfl k_664 k_665 rfl rfl (Nat.le_of_ble_eq_true rfl) (by decide) (fun _ _ _ q => q.elim) (fun r7 G4 I4 h8 => ?_)
    obtain ⟨e9, hQ4⟩ := h8
    rw [tv_1 (ff_person hP8 _ : fl_person z (nI (gP (zG z))) (nI 0) = 1)] at e9
    subst e9
    have hA4 := hA3.tr hQ4
    have hW4 := hQ4.1
    refine mx_ldc (v := (-9999001)) k_723 dL_refuses_39 ?_
    refine mx_icmp_ne (tgt := 100) dL_refuses_41 (by decide) (fun c41 => ?_) (fun c41 => ?_)
    · skip
      exact absurd rfl c41
    · skip
      refine mx_aload_n (i := 0) (hi := rfl) (hl := rfl) (hd := dL_refuses_44) ?_
      refine mx_iconstN 5 dL_refuses_45 (by decide) ?_
      refine mx_iload_n (i := 2) (hi := rfl) (hl := rfl) (hd := dL_refuses_46) ?_
      refine mx_bipushN 9 dL_refuses_47 (by decide) ?_
      refine mx_iconstN 0 dL_refuses_49 (by decide) ?_
      refine mx_callS (bc := 112) (bs := 672) (As := [.ref a, .int (nI 5), .int (nI (gP (zG z))), .int (nI 9), .int (nI 0)]) (rest := []) (b1 := 2) (b2 := 12) dL_refuses_50 (lc_find G4 I4 a z hW4 (nI (gP (zG z))) (nI 9) (nI 0)) km_L_call rfl k_664 k_665 rfl rfl (Nat.le_of_ble_eq_true rfl) (by decide) (fun _ _ _ q => q.elim) (fun r9 G5 I5 h10 => ?_)
      obtain ⟨e9, hQ5⟩ := h10
      rw [tv_1 (ff_find hP8 _ _ : fl_find z (nI (gP (zG z))) (nI 9) (nI 0) = 1)] at e9
      subst e9
      have hA5 := hA4.tr hQ5
      have hW5 := hQ5.1
      refine mx_ldc (v := (-9999001)) k_723 dL_refuses_53 ?_
      refine mx_icmp_ne (tgt := 100) dL_refuses_55 (by decide) (fun c55 => ?_) (fun c55 => ?_)
      · skip
        exact absurd rfl c55
      · skip
        refine mx_aload_n (i := 0) (hi := rfl) (hl := rfl) (hd := dL_refuses_58) ?_
        refine mx_bipushN 6 dL_refuses_59 (by decide) ?_
        refine mx_iconst (v := (-1)) (by decide) dL_refuses_61 ?_
        refine mx_iload_n (i := 1) (hi := rfl) (hl := rfl) (hd := dL_refuses_62) ?_
        refine mx_bipushN 99 dL_refuses_63 (by decide) ?_
        refine mx_iremN dL_refuses_65 (by omega) (by decide) ?_
        refine mx_isub dL_refuses_66 ?_
        refine mx_iconstN 0 dL_refuses_67 (by decide) ?_
        refine mx_iconstN 0 dL_refuses_68 (by decide) ?_
        refine mx_callS (bc := 111) (bs := 666) (As := [.ref a, .int (nI 6), .int ((-1) - (nI (x % 99))), .int (nI 0), .int (nI 0)]) (rest := []) (b1 := 1) (b2 := 6) dL_refuses_69 (lc_patternAt G5 I5 a z hW5 ((-1) - (nI (x % 99))) (nI 0) (nI 0)) km_L_call rfl k_664 k_665 rfl rfl (Nat.le_of_ble_eq_true rfl) (by decide) (fun _ _ _ q => q.elim) (fun r11 G6 I6 h12 => ?_)
        obtain ⟨e9, hQ6⟩ := h12
        rw [tv_2 (ff_sign _ (Nat.mod_lt _ (by decide)) : fl_patternAt ((-1) - (nI (x % 99))) = 2)] at e9
        subst e9
        have hA6 := hA5.tr hQ6
        have hW6 := hQ6.1
        refine mx_ldc (v := (-9999002)) k_638 dL_refuses_72 ?_
        refine mx_icmp_ne (tgt := 100) dL_refuses_74 (by decide) (fun c74 => ?_) (fun c74 => ?_)
        · skip
          exact absurd rfl c74
        · skip
          refine mx_aload_n (i := 0) (hi := rfl) (hl := rfl) (hd := dL_refuses_77) ?_
          refine mx_bipushN 8 dL_refuses_78 (by decide) ?_
          refine mx_iload_n (i := 3) (hi := rfl) (hl := rfl) (hd := dL_refuses_80) ?_
          refine mx_iload_n (i := 1) (hi := rfl) (hl := rfl) (hd := dL_refuses_81) ?_
          refine mx_bipushN 9 dL_refuses_82 (by decide) ?_
          refine mx_iremN dL_refuses_84 (by omega) (by decide) ?_
          refine mx_iaddN dL_refuses_85 ?_
          refine mx_iconstN 0 dL_refuses_86 (by decide) ?_
          refine mx_iconstN 0 dL_refuses_87 (by decide) ?_
          refine mx_callS (bc := 110) (bs := 660) (As := [.ref a, .int (nI 8), .int (nI ((gN (zG z)) + (x % 9))), .int (nI 0), .int (nI 0)]) (rest := []) (b1 := 1) (b2 := 6) dL_refuses_88 (lc_removeStep G6 I6 a z hW6 (nI ((gN (zG z)) + (x % 9))) (nI 0) (nI 0)) km_L_call rfl k_664 k_665 rfl rfl (Nat.le_of_ble_eq_true rfl) (by decide) (fun _ _ _ q => q.elim) (fun r13 G7 I7 h14 => ?_)
          obtain ⟨e9, hQ7⟩ := h14
          rw [tv_1 (ff_cut hN24 _ (Nat.mod_lt _ (by decide)) : fl_one (gN (zG z)) (nI ((gN (zG z)) + (x % 9))) = 1)] at e9
          rw [tz_n (by rw [(ff_cut hN24 _ (Nat.mod_lt _ (by decide)) : fl_one (gN (zG z)) (nI ((gN (zG z)) + (x % 9))) = 1)]; decide)] at hQ7
          subst e9
          have hA7 := hA6.tr hQ7
          have hW7 := hQ7.1
          refine mx_ldc (v := (-9999001)) k_723 dL_refuses_91 ?_
          refine mx_icmp_ne (tgt := 100) dL_refuses_93 (by decide) (fun c93 => ?_) (fun c93 => ?_)
          · skip
            exact absurd rfl c93
          · skip
            refine mx_iconstN 1 dL_refuses_96 (by decide) ?_
            refine mx_goto (tgt := 101) dL_refuses_97 (by decide) ?_
            refine mx_istoreE (i := 4) (ls' := [some (.ref a), some (.int (nI x)), some (.int (nI (gP (zG z)))), some (.int (nI (gN (zG z)))), some (.int (nI 1)), none]) (hd := dL_refuses_101) (hn := by decide) (hok := rfl) (hls := rfl) ?_
            refine mx_iload (i := 4) (hl := rfl) (hd := dL_refuses_103) ?_
            refine mx_if1_eq 189 dL_refuses_105 (by decide) ?_
            refine mx_aload_n (i := 0) (hi := rfl) (hl := rfl) (hd := dL_refuses_108) ?_
            refine mx_bipushN 9 dL_refuses_109 (by decide) ?_
            refine mx_iload_n (i := 3) (hi := rfl) (hl := rfl) (hd := dL_refuses_111) ?_
            refine mx_iconstN 0 dL_refuses_112 (by decide) ?_
            refine mx_iconstN 0 dL_refuses_113 (by decide) ?_
            refine mx_callS (bc := 109) (bs := 654) (As := [.ref a, .int (nI 9), .int (nI (gN (zG z))), .int (nI 0), .int (nI 0)]) (rest := []) (b1 := 1) (b2 := 6) dL_refuses_114 (lc_setCost G7 I7 a z hW7 (nI (gN (zG z))) (nI 0) (nI 0)) km_L_call rfl k_664 k_665 rfl rfl (Nat.le_of_ble_eq_true rfl) (by decide) (fun _ _ _ q => q.elim) (fun r15 G8 I8 h16 => ?_)
            obtain ⟨e9, hQ8⟩ := h16
            rw [tv_1 (ff_price hN24 _ : fl_setCost z (nI (gN (zG z))) (nI 0) = 1)] at e9
            rw [tz_n (by rw [(ff_price hN24 _ : fl_setCost z (nI (gN (zG z))) (nI 0) = 1)]; decide)] at hQ8
            subst e9
            have hA8 := hA7.tr hQ8
            have hW8 := hQ8.1
            refine mx_ldc (v := (-9999001)) k_723 dL_refuses_117 ?_
            refine mx_icmp_ne (tgt := 189) dL_refuses_119 (by decide) (fun c119 => ?_) (fun c119 => ?_)
            · skip
              exact absurd rfl c119
            · skip
              refine mx_aload_n (i := 0) (hi := rfl) (hl := rfl) (hd := dL_refuses_122) ?_
              refine mx_bipushN 10 dL_refuses_123 (by decide) ?_
              refine mx_iconst (v := (-1)) (by decide) dL_refuses_125 ?_
              refine mx_iconstN 0 dL_refuses_126 (by decide) ?_
              refine mx_iconstN 0 dL_refuses_127 (by decide) ?_
              refine mx_callS (bc := 108) (bs := 648) (As := [.ref a, .int (nI 10), .int (-1), .int (nI 0), .int (nI 0)]) (rest := []) (b1 := 1) (b2 := 6) dL_refuses_128 (lc_turn G8 I8 a z hW8 (-1) (nI 0) (nI 0)) km_L_call rfl k_664 k_665 rfl rfl (Nat.le_of_ble_eq_true rfl) (by decide) (fun _ _ _ q => q.elim) (fun r17 G9 I9 h18 => ?_)
              obtain ⟨e9, hQ9⟩ := h18
              rw [tv_1 (ff_turn : fl_turn z (-1) = 1)] at e9
              rw [tz_n (by rw [(ff_turn : fl_turn z (-1) = 1)]; decide)] at hQ9
              subst e9
              have hA9 := hA8.tr hQ9
              have hW9 := hQ9.1
              refine mx_ldc (v := (-9999001)) k_723 dL_refuses_131 ?_
              refine mx_icmp_ne (tgt := 189) dL_refuses_133 (by decide) (fun c133 => ?_) (fun c133 => ?_)
              · skip
                exact absurd rfl c133
              · skip
                refine mx_aload_n (i := 0) (hi := rfl) (hl := rfl) (hd := dL_refuses_136) ?_
                refine mx_bipushN 11 dL_refuses_137 (by decide) ?_
                refine mx_iload_n (i := 1) (hi := rfl) (hl := rfl) (hd := dL_refuses_139) ?_
                refine mx_iconstN 4 dL_refuses_140 (by decide) ?_
                refine mx_iremN dL_refuses_141 (by omega) (by decide) ?_
                refine mx_iconstN 4 dL_refuses_142 (by decide) ?_
                refine mx_iload_n (i := 1) (hi := rfl) (hl := rfl) (hd := dL_refuses_143) ?_
                refine mx_bipushN 9 dL_refuses_144 (by decide) ?_
                refine mx_iremN dL_refuses_146 (by omega) (by decide) ?_
                refine mx_iaddN dL_refuses_147 ?_
                refine mx_iconstN 0 dL_refuses_148 (by decide) ?_
                refine mx_callS (bc := 107) (bs := 642) (As := [.ref a, .int (nI 11), .int (nI (x % 4)), .int (nI (4 + (x % 9))), .int (nI 0)]) (rest := []) (b1 := 1) (b2 := 6) dL_refuses_149 (lc_exchange G9 I9 a z hW9 (nI (x % 4)) (nI (4 + (x % 9))) (nI 0)) km_L_call rfl k_664 k_665 rfl rfl (Nat.le_of_ble_eq_true rfl) (by decide) (fun _ _ _ q => q.elim) (fun r19 G10 I10 h20 => ?_)
                obtain ⟨e9, hQ10⟩ := h20
                rw [tv_2 (ff_swap _ _ (Nat.mod_lt _ (by decide)) (Nat.mod_lt _ (by decide)) : fl_exchange (nI (x % 4)) (nI (4 + (x % 9))) = 2)] at e9
                rw [tz_n (by rw [(ff_swap _ _ (Nat.mod_lt _ (by decide)) (Nat.mod_lt _ (by decide)) : fl_exchange (nI (x % 4)) (nI (4 + (x % 9))) = 2)]; decide)] at hQ10
                subst e9
                have hA10 := hA9.tr hQ10
                have hW10 := hQ10.1
                refine mx_ldc (v := (-9999002)) k_638 dL_refuses_152 ?_
                refine mx_icmp_ne (tgt := 189) dL_refuses_154 (by decide) (fun c154 => ?_) (fun c154 => ?_)
                · skip
                  exact absurd rfl c154
                · skip
                  refine mx_aload_n (i := 0) (hi := rfl) (hl := rfl) (hd := dL_refuses_157) ?_
                  refine mx_bipushN 14 dL_refuses_158 (by decide) ?_
                  refine mx_iload_n (i := 2) (hi := rfl) (hl := rfl) (hd := dL_refuses_160) ?_
                  refine mx_iconstN 0 dL_refuses_161 (by decide) ?_
                  refine mx_iconstN 0 dL_refuses_162 (by decide) ?_
                  refine mx_callS (bc := 106) (bs := 636) (As := [.ref a, .int (nI 14), .int (nI (gP (zG z))), .int (nI 0), .int (nI 0)]) (rest := []) (b1 := 1) (b2 := 6) dL_refuses_163 (lc_cost G10 I10 a z hW10 (nI (gP (zG z))) (nI 0) (nI 0)) km_L_call rfl k_664 k_665 rfl rfl (Nat.le_of_ble_eq_true rfl) (by decide) (fun _ _ _ q => q.elim) (fun r21 G11 I11 h22 => ?_)
                  obtain ⟨e9, hQ11⟩ := h22
                  rw [tv_1 (ff_two0 hP8 _ : fl_two z (nI (gP (zG z))) (nI 0) = 1)] at e9
                  subst e9
                  have hA11 := hA10.tr hQ11
                  have hW11 := hQ11.1
                  refine mx_ldc (v := (-9999001)) k_723 dL_refuses_166 ?_
                  refine mx_icmp_ne (tgt := 189) dL_refuses_168 (by decide) (fun c168 => ?_) (fun c168 => ?_)
                  · skip
                    exact absurd rfl c168
                  · skip
                    refine mx_aload_n (i := 0) (hi := rfl) (hl := rfl) (hd := dL_refuses_171) ?_
                    refine mx_bipushN 15 dL_refuses_172 (by decide) ?_
                    refine mx_iconst (v := (-1)) (by decide) dL_refuses_174 ?_
                    refine mx_iconstN 0 dL_refuses_175 (by decide) ?_
                    refine mx_iconstN 0 dL_refuses_176 (by decide) ?_
                    refine mx_callS (bc := 105) (bs := 630) (As := [.ref a, .int (nI 15), .int (-1), .int (nI 0), .int (nI 0)]) (rest := []) (b1 := 1) (b2 := 6) dL_refuses_177 (lc_length G11 I11 a z hW11 (-1) (nI 0) (nI 0)) km_L_call rfl k_664 k_665 rfl rfl (Nat.le_of_ble_eq_true rfl) (by decide) (fun _ _ _ q => q.elim) (fun r23 G12 I12 h24 => ?_)
                    obtain ⟨e9, hQ12⟩ := h24
                    rw [tv_1 (ff_long : fl_two z (-1) (nI 0) = 1)] at e9
                    subst e9
                    have hA12 := hA11.tr hQ12
                    have hW12 := hQ12.1
                    refine mx_ldc (v := (-9999001)) k_723 dL_refuses_180 ?_
                    refine mx_icmp_ne (tgt := 189) dL_refuses_182 (by decide) (fun c182 => ?_) (fun c182 => ?_)
                    · skip
                      exact absurd rfl c182
                    · skip
                      refine mx_iconstN 1 dL_refuses_185 (by decide) ?_
                      refine mx_goto (tgt := 190) dL_refuses_186 (by decide) ?_
                      refine mx_istoreE (i := 4) (ls' := [some (.ref a), some (.int (nI x)), some (.int (nI (gP (zG z)))), some (.int (nI (gN (zG z)))), some (.int (nI 1)), none]) (hd := dL_refuses_190) (hn := by decide) (hok := rfl) (hls := rfl) ?_
                      refine mx_iload (i := 4) (hl := rfl) (hd := dL_refuses_192) ?_
                      refine mx_if1_eq 277 dL_refuses_194 (by decide) ?_
                      refine mx_aload_n (i := 0) (hi := rfl) (hl := rfl) (hd := dL_refuses_197) ?_
                      refine mx_bipushN 16 dL_refuses_198 (by decide) ?_
                      refine mx_iload_n (i := 2) (hi := rfl) (hl := rfl) (hd := dL_refuses_200) ?_
                      refine mx_iconstN 0 dL_refuses_201 (by decide) ?_
                      refine mx_iconst (v := (-1)) (by decide) dL_refuses_202 ?_
                      refine mx_callS (bc := 103) (bs := 618) (As := [.ref a, .int (nI 16), .int (nI (gP (zG z))), .int (nI 0), .int (-1)]) (rest := []) (b1 := 2) (b2 := 12) dL_refuses_203 (lc_pathAt G12 I12 a z hW12 (nI (gP (zG z))) (nI 0) (-1)) km_L_call rfl k_664 k_665 rfl rfl (Nat.le_of_ble_eq_true rfl) (by decide) (fun _ _ _ q => q.elim) (fun r25 G13 I13 h26 => ?_)
                      obtain ⟨e9, hQ13⟩ := h26
                      rw [tv_1 (ff_path hP8 _ _ : fl_pathAt z (nI (gP (zG z))) (nI 0) (-1) = 1)] at e9
                      subst e9
                      have hA13 := hA12.tr hQ13
                      have hW13 := hQ13.1
                      refine mx_ldc (v := (-9999001)) k_723 dL_refuses_206 ?_
                      refine mx_icmp_ne (tgt := 277) dL_refuses_208 (by decide) (fun c208 => ?_) (fun c208 => ?_)
                      · skip
                        exact absurd rfl c208
                      · skip
                        refine mx_aload_n (i := 0) (hi := rfl) (hl := rfl) (hd := dL_refuses_211) ?_
                        refine mx_bipushN 17 dL_refuses_212 (by decide) ?_
                        refine mx_iload_n (i := 2) (hi := rfl) (hl := rfl) (hd := dL_refuses_214) ?_
                        refine mx_iconstN 0 dL_refuses_215 (by decide) ?_
                        refine mx_bipushN 9 dL_refuses_216 (by decide) ?_
                        refine mx_callS (bc := 101) (bs := 606) (As := [.ref a, .int (nI 17), .int (nI (gP (zG z))), .int (nI 0), .int (nI 9)]) (rest := []) (b1 := 2) (b2 := 12) dL_refuses_218 (lc_paths G13 I13 a z hW13 (nI (gP (zG z))) (nI 0) (nI 9)) km_L_call rfl k_664 k_665 rfl rfl (Nat.le_of_ble_eq_true rfl) (by decide) (fun _ _ _ q => q.elim) (fun r27 G14 I14 h28 => ?_)
                        obtain ⟨e9, hQ14⟩ := h28
                        rw [tv_1 (ff_paths hP8 _ _ : fl_paths z (nI (gP (zG z))) (nI 0) (nI 9) = 1)] at e9
                        subst e9
                        have hA14 := hA13.tr hQ14
                        have hW14 := hQ14.1
                        refine mx_ldc (v := (-9999001)) k_723 dL_refuses_221 ?_
                        refine mx_icmp_ne (tgt := 277) dL_refuses_223 (by decide) (fun c223 => ?_) (fun c223 => ?_)
                        · skip
                          exact absurd rfl c223
                        · skip
                          refine mx_aload_n (i := 0) (hi := rfl) (hl := rfl) (hd := dL_refuses_226) ?_
                          refine mx_bipushN 18 dL_refuses_227 (by decide) ?_
                          refine mx_iload_n (i := 2) (hi := rfl) (hl := rfl) (hd := dL_refuses_229) ?_
                          refine mx_iconstN 0 dL_refuses_230 (by decide) ?_
                          refine mx_iconstN 0 dL_refuses_231 (by decide) ?_
                          refine mx_callS (bc := 100) (bs := 600) (As := [.ref a, .int (nI 18), .int (nI (gP (zG z))), .int (nI 0), .int (nI 0)]) (rest := []) (b1 := 1) (b2 := 6) dL_refuses_232 (lc_needed G14 I14 a z hW14 (nI (gP (zG z))) (nI 0) (nI 0)) km_L_call rfl k_664 k_665 rfl rfl (Nat.le_of_ble_eq_true rfl) (by decide) (fun _ _ _ q => q.elim) (fun r29 G15 I15 h30 => ?_)
                          obtain ⟨e9, hQ15⟩ := h30
                          rw [tv_1 (ff_two0 hP8 _ : fl_two z (nI (gP (zG z))) (nI 0) = 1)] at e9
                          subst e9
                          have hA15 := hA14.tr hQ15
                          have hW15 := hQ15.1
                          refine mx_ldc (v := (-9999001)) k_723 dL_refuses_235 ?_
                          refine mx_icmp_ne (tgt := 277) dL_refuses_237 (by decide) (fun c237 => ?_) (fun c237 => ?_)
                          · skip
                            exact absurd rfl c237
                          · skip
                            refine mx_aload_n (i := 0) (hi := rfl) (hl := rfl) (hd := dL_refuses_240) ?_
                            refine mx_bipushN 19 dL_refuses_241 (by decide) ?_
                            refine mx_iload_n (i := 2) (hi := rfl) (hl := rfl) (hd := dL_refuses_243) ?_
                            refine mx_iconstN 0 dL_refuses_244 (by decide) ?_
                            refine mx_iconstN 0 dL_refuses_245 (by decide) ?_
                            refine mx_callS (bc := 99) (bs := 594) (As := [.ref a, .int (nI 19), .int (nI (gP (zG z))), .int (nI 0), .int (nI 0)]) (rest := []) (b1 := 1) (b2 := 6) dL_refuses_246 (lc_bestNew G15 I15 a z hW15 (nI (gP (zG z))) (nI 0) (nI 0)) km_L_call rfl k_664 k_665 rfl rfl (Nat.le_of_ble_eq_true rfl) (by decide) (fun _ _ _ q => q.elim) (fun r31 G16 I16 h32 => ?_)
                            obtain ⟨e9, hQ16⟩ := h32
                            rw [tv_1 (ff_two0 hP8 _ : fl_two z (nI (gP (zG z))) (nI 0) = 1)] at e9
                            subst e9
                            have hA16 := hA15.tr hQ16
                            have hW16 := hQ16.1
                            refine mx_ldc (v := (-9999001)) k_723 dL_refuses_249 ?_
                            refine mx_icmp_ne (tgt := 277) dL_refuses_251 (by decide) (fun c251 => ?_) (fun c251 => ?_)
                            · skip
                              exact absurd rfl c251
                            · skip
                              refine mx_aload_n (i := 0) (hi := rfl) (hl := rfl) (hd := dL_refuses_254) ?_
                              refine mx_iconstN 2 dL_refuses_255 (by decide) ?_
                              refine mx_bipushN 8 dL_refuses_256 (by decide) ?_
                              refine mx_iload_n (i := 1) (hi := rfl) (hl := rfl) (hd := dL_refuses_258) ?_
                              refine mx_bipushN 99 dL_refuses_259 (by decide) ?_
                              refine mx_iremN dL_refuses_261 (by omega) (by decide) ?_
                              refine mx_iaddN dL_refuses_262 ?_
                              refine mx_iconstN 0 dL_refuses_263 (by decide) ?_
                              refine mx_iconstN 0 dL_refuses_264 (by decide) ?_
                              refine mx_callS (bc := 98) (bs := 588) (As := [.ref a, .int (nI 2), .int (nI (8 + (x % 99))), .int (nI 0), .int (nI 0)]) (rest := []) (b1 := 1) (b2 := 6) dL_refuses_265 (lc_about G16 I16 a z hW16 (nI (8 + (x % 99))) (nI 0) (nI 0)) km_L_call rfl k_664 k_665 rfl rfl (Nat.le_of_ble_eq_true rfl) (by decide) (fun _ _ _ q => q.elim) (fun r33 G17 I17 h34 => ?_)
                              obtain ⟨e9, hQ17⟩ := h34
                              rw [tv_2 (ff_about _ (Nat.mod_lt _ (by decide)) : fl_about (nI (8 + (x % 99))) = 2)] at e9
                              subst e9
                              have hA17 := hA16.tr hQ17
                              have hW17 := hQ17.1
                              refine mx_ldc (v := (-9999002)) k_638 dL_refuses_268 ?_
                              refine mx_icmp_ne (tgt := 277) dL_refuses_270 (by decide) (fun c270 => ?_) (fun c270 => ?_)
                              · skip
                                exact absurd rfl c270
                              · skip
                                refine mx_iconstN 1 dL_refuses_273 (by decide) ?_
                                refine mx_goto (tgt := 278) dL_refuses_274 (by decide) ?_
                                refine mx_istoreE (i := 4) (ls' := [some (.ref a), some (.int (nI x)), some (.int (nI (gP (zG z)))), some (.int (nI (gN (zG z)))), some (.int (nI 1)), none]) (hd := dL_refuses_278) (hn := by decide) (hok := rfl) (hls := rfl) ?_
                                refine mx_iload (i := 4) (hl := rfl) (hd := dL_refuses_280) ?_
                                refine mx_if1_eq 368 dL_refuses_282 (by decide) ?_
                                refine mx_aload_n (i := 0) (hi := rfl) (hl := rfl) (hd := dL_refuses_285) ?_
                                refine mx_bipushN 20 dL_refuses_286 (by decide) ?_
                                refine mx_iconstN 2 dL_refuses_288 (by decide) ?_
                                refine mx_iload_n (i := 1) (hi := rfl) (hl := rfl) (hd := dL_refuses_289) ?_
                                refine mx_bipushN 9 dL_refuses_290 (by decide) ?_
                                refine mx_iremN dL_refuses_292 (by omega) (by decide) ?_
                                refine mx_iaddN dL_refuses_293 ?_
                                refine mx_iconstN 0 dL_refuses_294 (by decide) ?_
                                refine mx_iconstN 0 dL_refuses_295 (by decide) ?_
                                refine mx_callS (bc := 97) (bs := 582) (As := [.ref a, .int (nI 20), .int (nI (2 + (x % 9))), .int (nI 0), .int (nI 0)]) (rest := []) (b1 := 1) (b2 := 6) dL_refuses_296 (lc_save G17 I17 a z hW17 (nI (2 + (x % 9))) (nI 0) (nI 0)) km_L_call rfl k_664 k_665 rfl rfl (Nat.le_of_ble_eq_true rfl) (by decide) (fun _ _ _ q => q.elim) (fun r35 G18 I18 h36 => ?_)
                                obtain ⟨e9, hQ18⟩ := h36
                                rw [tv_1 (ff_keep _ (Nat.mod_lt _ (by decide)) : fl_slot (nI (2 + (x % 9))) = 1)] at e9
                                rw [tz_n (by rw [(ff_keep _ (Nat.mod_lt _ (by decide)) : fl_slot (nI (2 + (x % 9))) = 1)]; decide)] at hQ18
                                subst e9
                                have hA18 := hA17.tr hQ18
                                have hW18 := hQ18.1
                                refine mx_ldc (v := (-9999001)) k_723 dL_refuses_299 ?_
                                refine mx_icmp_ne (tgt := 368) dL_refuses_301 (by decide) (fun c301 => ?_) (fun c301 => ?_)
                                · skip
                                  exact absurd rfl c301
                                · skip
                                  refine mx_aload_n (i := 0) (hi := rfl) (hl := rfl) (hd := dL_refuses_304) ?_
                                  refine mx_bipushN 21 dL_refuses_305 (by decide) ?_
                                  refine mx_iconst (v := (-1)) (by decide) dL_refuses_307 ?_
                                  refine mx_iconstN 0 dL_refuses_308 (by decide) ?_
                                  refine mx_iconstN 0 dL_refuses_309 (by decide) ?_
                                  refine mx_callS (bc := 95) (bs := 570) (As := [.ref a, .int (nI 21), .int (-1), .int (nI 0), .int (nI 0)]) (rest := []) (b1 := 2) (b2 := 12) dL_refuses_310 (lc_restore G18 I18 a z hW18 (-1) (nI 0) (nI 0)) km_L_call rfl k_664 k_665 rfl rfl (Nat.le_of_ble_eq_true rfl) (by decide) (fun _ _ _ q => q.elim) (fun r37 G19 I19 h38 => ?_)
                                  obtain ⟨e9, hQ19⟩ := h38
                                  rw [tv_1 (ff_back : fl_restore z (-1) = 1)] at e9
                                  rw [tz_n (by rw [(ff_back : fl_restore z (-1) = 1)]; decide)] at hQ19
                                  subst e9
                                  have hA19 := hA18.tr hQ19
                                  have hW19 := hQ19.1
                                  refine mx_ldc (v := (-9999001)) k_723 dL_refuses_313 ?_
                                  refine mx_icmp_ne (tgt := 368) dL_refuses_315 (by decide) (fun c315 => ?_) (fun c315 => ?_)
                                  · skip
                                    exact absurd rfl c315
                                  · skip
                                    refine mx_aload_n (i := 0) (hi := rfl) (hl := rfl) (hd := dL_refuses_318) ?_
                                    refine mx_iconstN 0 dL_refuses_319 (by decide) ?_
                                    refine mx_sipushN 256 dL_refuses_320 (by decide) ?_
                                    refine mx_iload_n (i := 1) (hi := rfl) (hl := rfl) (hd := dL_refuses_323) ?_
                                    refine mx_bipushN 99 dL_refuses_324 (by decide) ?_
                                    refine mx_iremN dL_refuses_326 (by omega) (by decide) ?_
                                    refine mx_iaddN dL_refuses_327 ?_
                                    refine mx_iconstN 0 dL_refuses_328 (by decide) ?_
                                    refine mx_iconstN 0 dL_refuses_329 (by decide) ?_
                                    refine mx_callS (bc := 93) (bs := 558) (As := [.ref a, .int (nI 0), .int (nI (256 + (x % 99))), .int (nI 0), .int (nI 0)]) (rest := []) (b1 := 2) (b2 := 12) dL_refuses_330 (lc_append G19 I19 a z hW19 (nI (256 + (x % 99))) (nI 0) (nI 0)) km_L_call rfl k_664 k_665 rfl rfl (Nat.le_of_ble_eq_true rfl) (by decide) (fun _ _ _ q => q.elim) (fun r39 G20 I20 h40 => ?_)
                                    obtain ⟨e9, hQ20⟩ := h40
                                    rw [tv_2 (ff_append _ (Nat.mod_lt _ (by decide)) : fl_append z (nI (256 + (x % 99))) = 2)] at e9
                                    rw [tz_n (by rw [(ff_append _ (Nat.mod_lt _ (by decide)) : fl_append z (nI (256 + (x % 99))) = 2)]; decide)] at hQ20
                                    subst e9
                                    have hA20 := hA19.tr hQ20
                                    have hW20 := hQ20.1
                                    refine mx_ldc (v := (-9999002)) k_638 dL_refuses_333 ?_
                                    refine mx_icmp_ne (tgt := 368) dL_refuses_335 (by decide) (fun c335 => ?_) (fun c335 => ?_)
                                    · skip
                                      exact absurd rfl c335
                                    · skip
                                      refine mx_aload_n (i := 0) (hi := rfl) (hl := rfl) (hd := dL_refuses_338) ?_
                                      refine mx_iload_n (i := 1) (hi := rfl) (hl := rfl) (hd := dL_refuses_339) ?_
                                      refine mx_i2l (hv := rfl) (hd := dL_refuses_340) ?_
                                      refine mx_bipushN 21 dL_refuses_341 (by decide) ?_
                                      refine mx_callSW (bc := 92) (bs := 552) (As := [.ref a, .long ((nI x).toInt64), .int (nI 21)]) (rest := []) (b1 := 1) (b2 := 6) dL_refuses_343 (lw_simulate G20 I20 a z hW20 ((nI x).toInt64) (nI 21)) km_L_trySimulate rfl k_639 k_640 rfl rfl (Nat.le_of_ble_eq_true rfl) (by decide) (fun _ _ _ q => q.elim) (fun r41 G21 I21 h42 => ?_)
                                      obtain ⟨e9, hQ21⟩ := h42
                                      rw [tv_2 (ff_sim : fl_simulate (nI 21) = 2)] at e9
                                      subst e9
                                      have hA21 := hA20.tr hQ21
                                      have hW21 := hQ21.1
                                      refine mx_ldc (v := (-9999002)) k_638 dL_refuses_346 ?_
                                      refine mx_icmp_ne (tgt := 368) dL_refuses_348 (by decide) (fun c348 => ?_) (fun c348 => ?_)
                                      · skip
                                        exact absurd rfl c348
                                      · skip
                                        refine mx_aload_n (i := 0) (hi := rfl) (hl := rfl) (hd := dL_refuses_351) ?_
                                        refine mx_iload_n (i := 2) (hi := rfl) (hl := rfl) (hd := dL_refuses_352) ?_
                                        refine mx_iconstN 0 dL_refuses_353 (by decide) ?_
                                        refine mx_iload_n (i := 2) (hi := rfl) (hl := rfl) (hd := dL_refuses_354) ?_
                                        refine mx_iconstN 1 dL_refuses_355 (by decide) ?_
                                        refine mx_callSW (bc := 91) (bs := 546) (As := [.ref a, .int (nI (gP (zG z))), .int (nI 0), .int (nI (gP (zG z))), .int (nI 1)]) (rest := []) (b1 := 1) (b2 := 6) dL_refuses_356 (lw_addStep G21 I21 a z hW21 (nI (gP (zG z))) (nI 0) (nI (gP (zG z))) (nI 1)) km_L_tryBuild rfl k_969 k_970 rfl rfl (Nat.le_of_ble_eq_true rfl) (by decide) (fun _ _ _ q => q.elim) (fun r43 G22 I22 h44 => ?_)
                                        obtain ⟨e9, hQ22⟩ := h44
                                        rw [tv_1 (ff_build hP8 _ _ _ : gWhy (zG z) (nI (gP (zG z))) (nI 0) (nI (gP (zG z))) (nI 1) = 1)] at e9
                                        rw [tz_n (by rw [(ff_build hP8 _ _ _ : gWhy (zG z) (nI (gP (zG z))) (nI 0) (nI (gP (zG z))) (nI 1) = 1)]; decide)] at hQ22
                                        subst e9
                                        have hA22 := hA21.tr hQ22
                                        have hW22 := hQ22.1
                                        refine mx_ldc (v := (-9999001)) k_723 dL_refuses_359 ?_
                                        refine mx_icmp_ne (tgt := 368) dL_refuses_361 (by decide) (fun c361 => ?_) (fun c361 => ?_)
                                        · skip
                                          exact absurd rfl c361
                                        · skip
                                          refine mx_iconstN 1 dL_refuses_364 (by decide) ?_
                                          refine mx_goto (tgt := 369) dL_refuses_365 (by decide) ?_
                                          refine mx_istoreE (i := 4) (ls' := [some (.ref a), some (.int (nI x)), some (.int (nI (gP (zG z)))), some (.int (nI (gN (zG z)))), some (.int (nI 1)), none]) (hd := dL_refuses_369) (hn := by decide) (hok := rfl) (hls := rfl) ?_
                                          refine mx_iload (i := 4) (hl := rfl) (hd := dL_refuses_371) ?_
                                          refine mx_if1_eq 436 dL_refuses_373 (by decide) ?_
                                          refine mx_aload_n (i := 0) (hi := rfl) (hl := rfl) (hd := dL_refuses_376) ?_
                                          refine mx_iconstN 4 dL_refuses_377 (by decide) ?_
                                          refine mx_lconst (v := 0) (by decide) dL_refuses_378 ?_
                                          refine mx_callSW (bc := 89) (bs := 534) (As := [.ref a, .int (nI 4), .long (0 : Int64)]) (rest := []) (b1 := 2) (b2 := 12) dL_refuses_379 (lw_runScript G22 I22 a z hW22 (nI 4) (0 : Int64)) km_L_tryScript rfl k_330 k_331 rfl rfl (Nat.le_of_ble_eq_true rfl) (by decide) (fun _ _ _ q => q.elim) (fun r45 G23 I23 h46 => ?_)
                                          obtain ⟨e9, hQ23⟩ := h46
                                          rw [tv_2 (ff_scr1 : fl_runScript (nI 4) (0 : Int64) = 2)] at e9
                                          subst e9
                                          have hA23 := hA22.tr hQ23
                                          have hW23 := hQ23.1
                                          refine mx_ldc (v := (-9999002)) k_638 dL_refuses_382 ?_
                                          refine mx_icmp_ne (tgt := 436) dL_refuses_384 (by decide) (fun c384 => ?_) (fun c384 => ?_)
                                          · skip
                                            exact absurd rfl c384
                                          · skip
                                            refine mx_aload_n (i := 0) (hi := rfl) (hl := rfl) (hd := dL_refuses_387) ?_
                                            refine mx_iconstN 1 dL_refuses_388 (by decide) ?_
                                            refine mx_ldc2 (v := (100000)) k_976 dL_refuses_389 ?_
                                            refine mx_iload_n (i := 1) (hi := rfl) (hl := rfl) (hd := dL_refuses_392) ?_
                                            refine mx_i2l (hv := rfl) (hd := dL_refuses_393) ?_
                                            refine mx_ladd dL_refuses_394 ?_
                                            refine mx_callSW (bc := 87) (bs := 522) (As := [.ref a, .int (nI 1), .long ((100000) + ((nI x).toInt64))]) (rest := []) (b1 := 2) (b2 := 12) dL_refuses_395 (lw_runScript G23 I23 a z hW23 (nI 1) ((100000) + ((nI x).toInt64))) km_L_tryScript rfl k_330 k_331 rfl rfl (Nat.le_of_ble_eq_true rfl) (by decide) (fun _ _ _ q => q.elim) (fun r47 G24 I24 h48 => ?_)
                                            obtain ⟨e9, hQ24⟩ := h48
                                            rw [tv_2 (ff_scr2 hx : fl_runScript (nI 1) ((100000) + ((nI x).toInt64)) = 2)] at e9
                                            subst e9
                                            have hA24 := hA23.tr hQ24
                                            have hW24 := hQ24.1
                                            refine mx_ldc (v := (-9999002)) k_638 dL_refuses_398 ?_
                                            refine mx_icmp_ne (tgt := 436) dL_refuses_400 (by decide) (fun c400 => ?_) (fun c400 => ?_)
                                            · skip
                                              exact absurd rfl c400
                                            · skip
                                              refine mx_aload_n (i := 0) (hi := rfl) (hl := rfl) (hd := dL_refuses_403) ?_
                                              refine mx_iconstN 2 dL_refuses_404 (by decide) ?_
                                              refine mx_ldc2 (v := (-1)) k_977 dL_refuses_405 ?_
                                              refine mx_iload_n (i := 1) (hi := rfl) (hl := rfl) (hd := dL_refuses_408) ?_
                                              refine mx_i2l (hv := rfl) (hd := dL_refuses_409) ?_
                                              refine mx_lsub dL_refuses_410 ?_
                                              refine mx_callSW (bc := 85) (bs := 510) (As := [.ref a, .int (nI 2), .long ((-1) - ((nI x).toInt64))]) (rest := []) (b1 := 2) (b2 := 12) dL_refuses_411 (lw_runScript G24 I24 a z hW24 (nI 2) ((-1) - ((nI x).toInt64))) km_L_tryScript rfl k_330 k_331 rfl rfl (Nat.le_of_ble_eq_true rfl) (by decide) (fun _ _ _ q => q.elim) (fun r49 G25 I25 h50 => ?_)
                                              obtain ⟨e9, hQ25⟩ := h50
                                              rw [tv_2 (ff_scr3 hx : fl_runScript (nI 2) ((-1) - ((nI x).toInt64)) = 2)] at e9
                                              subst e9
                                              have hA25 := hA24.tr hQ25
                                              have hW25 := hQ25.1
                                              refine mx_ldc (v := (-9999002)) k_638 dL_refuses_414 ?_
                                              refine mx_icmp_ne (tgt := 436) dL_refuses_416 (by decide) (fun c416 => ?_) (fun c416 => ?_)
                                              · skip
                                                exact absurd rfl c416
                                              · skip
                                                refine mx_aload_n (i := 0) (hi := rfl) (hl := rfl) (hd := dL_refuses_419) ?_
                                                refine mx_iload_n (i := 2) (hi := rfl) (hl := rfl) (hd := dL_refuses_420) ?_
                                                refine mx_bipushN 9 dL_refuses_421 (by decide) ?_
                                                refine mx_lconst (v := 0) (by decide) dL_refuses_423 ?_
                                                refine mx_callSW (bc := 82) (bs := 492) (As := [.ref a, .int (nI (gP (zG z))), .int (nI 9), .long (0 : Int64)]) (rest := []) (b1 := 3) (b2 := 18) dL_refuses_424 (lw_follow G25 I25 a z hW25 (nI (gP (zG z))) (nI 9) (0 : Int64)) km_L_tryFollow rfl k_978 k_979 rfl rfl (Nat.le_of_ble_eq_true rfl) (by decide) (fun _ _ _ q => q.elim) (fun r51 G26 I26 h52 => ?_)
                                                obtain ⟨e9, hQ26⟩ := h52
                                                rw [tv_1 (ff_follow hP8 _ _ : fl_follow z (nI (gP (zG z))) (nI 9) (0 : Int64) = 1)] at e9
                                                subst e9
                                                have hA26 := hA25.tr hQ26
                                                have hW26 := hQ26.1
                                                refine mx_ldc (v := (-9999001)) k_723 dL_refuses_427 ?_
                                                refine mx_icmp_ne (tgt := 436) dL_refuses_429 (by decide) (fun c429 => ?_) (fun c429 => ?_)
                                                · skip
                                                  exact absurd rfl c429
                                                · skip
                                                  refine mx_iconstN 1 dL_refuses_432 (by decide) ?_
                                                  refine mx_goto (tgt := 437) dL_refuses_433 (by decide) ?_
                                                  refine mx_istoreE (i := 4) (ls' := [some (.ref a), some (.int (nI x)), some (.int (nI (gP (zG z)))), some (.int (nI (gN (zG z)))), some (.int (nI 1)), none]) (hd := dL_refuses_437) (hn := by decide) (hok := rfl) (hls := rfl) ?_
                                                  refine mx_iload_n (i := 2) (hi := rfl) (hl := rfl) (hd := dL_refuses_439) ?_
                                                  refine mx_ifN_le 564 dL_refuses_440 (by decide) (by omega) (fun c440 => ?_) (fun c440 => ?_)
                                                  · skip
                                                    refine mx_iload (i := 4) (hl := rfl) (hd := dL_refuses_564) ?_
                                                    refine mx_if1_eq 609 dL_refuses_566 (by decide) ?_
                                                    refine mx_iload_n (i := 3) (hi := rfl) (hl := rfl) (hd := dL_refuses_569) ?_
                                                    refine mx_ifN_eq 605 dL_refuses_570 (by decide) (by omega) (fun c570 => ?_) (fun c570 => ?_)
                                                    · skip
                                                      refine mx_iconstN 1 dL_refuses_605 (by decide) ?_
                                                      refine mx_goto (tgt := 610) dL_refuses_606 (by decide) ?_
                                                      exact mx_iret dL_refuses_610 rfl (by decide) (⟨rfl, hA26⟩)
                                                    · skip
                                                      have hs0 : 0 < gN (zG z) := by omega
                                                      refine mx_aload_n (i := 0) (hi := rfl) (hl := rfl) (hd := dL_refuses_573) ?_
                                                      refine mx_bipushN 9 dL_refuses_574 (by decide) ?_
                                                      refine mx_iload_n (i := 1) (hi := rfl) (hl := rfl) (hd := dL_refuses_576) ?_
                                                      refine mx_iload_n (i := 3) (hi := rfl) (hl := rfl) (hd := dL_refuses_577) ?_
                                                      refine mx_iremN dL_refuses_578 (by omega) (by omega) ?_
                                                      refine mx_bipushN 10 dL_refuses_579 (by decide) ?_
                                                      refine mx_iconstN 0 dL_refuses_581 (by decide) ?_
                                                      refine mx_callS (bc := 81) (bs := 486) (As := [.ref a, .int (nI 9), .int (nI (x % (gN (zG z)))), .int (nI 10), .int (nI 0)]) (rest := []) (b1 := 1) (b2 := 6) dL_refuses_582 (lc_setCost G26 I26 a z hW26 (nI (x % (gN (zG z)))) (nI 10) (nI 0)) km_L_call rfl k_664 k_665 rfl rfl (Nat.le_of_ble_eq_true rfl) (by decide) (fun _ _ _ q => q.elim) (fun r53 G27 I27 h54 => ?_)
                                                      obtain ⟨e9, hQ27⟩ := h54
                                                      rw [tv_2 (ff_price2 hN24 (Nat.mod_lt _ hs0) : fl_setCost z (nI (x % (gN (zG z)))) (nI 10) = 2)] at e9
                                                      rw [tz_n (by rw [(ff_price2 hN24 (Nat.mod_lt _ hs0) : fl_setCost z (nI (x % (gN (zG z)))) (nI 10) = 2)]; decide)] at hQ27
                                                      subst e9
                                                      have hA27 := hA26.tr hQ27
                                                      have hW27 := hQ27.1
                                                      refine mx_ldc (v := (-9999002)) k_638 dL_refuses_585 ?_
                                                      refine mx_icmp_ne (tgt := 609) dL_refuses_587 (by decide) (fun c587 => ?_) (fun c587 => ?_)
                                                      · skip
                                                        exact absurd rfl c587
                                                      · skip
                                                        refine mx_aload_n (i := 0) (hi := rfl) (hl := rfl) (hd := dL_refuses_590) ?_
                                                        refine mx_iconstN 3 dL_refuses_591 (by decide) ?_
                                                        refine mx_iload_n (i := 1) (hi := rfl) (hl := rfl) (hd := dL_refuses_592) ?_
                                                        refine mx_iload_n (i := 3) (hi := rfl) (hl := rfl) (hd := dL_refuses_593) ?_
                                                        refine mx_iremN dL_refuses_594 (by omega) (by omega) ?_
                                                        refine mx_iconstN 4 dL_refuses_595 (by decide) ?_
                                                        refine mx_iconstN 0 dL_refuses_596 (by decide) ?_
                                                        refine mx_callS (bc := 79) (bs := 474) (As := [.ref a, .int (nI 3), .int (nI (x % (gN (zG z)))), .int (nI 4), .int (nI 0)]) (rest := []) (b1 := 2) (b2 := 12) dL_refuses_597 (lc_step G27 I27 a z hW27 (nI (x % (gN (zG z)))) (nI 4) (nI 0)) km_L_call rfl k_664 k_665 rfl rfl (Nat.le_of_ble_eq_true rfl) (by decide) (fun _ _ _ q => q.elim) (fun r55 G28 I28 h56 => ?_)
                                                        obtain ⟨e9, hQ28⟩ := h56
                                                        rw [tv_2 (ff_step2 hN24 (Nat.mod_lt _ hs0) : fl_step z (nI (x % (gN (zG z)))) (nI 4) = 2)] at e9
                                                        subst e9
                                                        have hA28 := hA27.tr hQ28
                                                        have hW28 := hQ28.1
                                                        refine mx_ldc (v := (-9999002)) k_638 dL_refuses_600 ?_
                                                        refine mx_icmp_ne (tgt := 609) dL_refuses_602 (by decide) (fun c602 => ?_) (fun c602 => ?_)
                                                        · skip
                                                          exact absurd rfl c602
                                                        · skip
                                                          refine mx_iconstN 1 dL_refuses_605 (by decide) ?_
                                                          refine mx_goto (tgt := 610) dL_refuses_606 (by decide) ?_
                                                          exact mx_iret dL_refuses_610 rfl (by decide) (⟨rfl, hA28⟩)
                                                  · skip
                                                    have hp0 : 0 < gP (zG z) := by omega
                                                    refine mx_iload (i := 4) (hl := rfl) (hd := dL_refuses_443) ?_
                                                    refine mx_if1_eq 564 dL_refuses_445 (by decide) ?_
                                                    refine mx_iload_n (i := 1) (hi := rfl) (hl := rfl) (hd := dL_refuses_448) ?_
                                                    refine mx_iload_n (i := 2) (hi := rfl) (hl := rfl) (hd := dL_refuses_449) ?_
                                                    refine mx_iremN dL_refuses_450 (by omega) (by omega) ?_
                                                    refine mx_istoreE (i := 5) (ls' := [some (.ref a), some (.int (nI x)), some (.int (nI (gP (zG z)))), some (.int (nI (gN (zG z)))), some (.int (nI 1)), some (.int (nI (x % (gP (zG z)))))]) (hd := dL_refuses_451) (hn := by decide) (hok := rfl) (hls := rfl) ?_
                                                    refine mx_aload_n (i := 0) (hi := rfl) (hl := rfl) (hd := dL_refuses_453) ?_
                                                    refine mx_iconstN 4 dL_refuses_454 (by decide) ?_
                                                    refine mx_iload (i := 5) (hl := rfl) (hd := dL_refuses_455) ?_
                                                    refine mx_iconstN 4 dL_refuses_457 (by decide) ?_
                                                    refine mx_iload_n (i := 1) (hi := rfl) (hl := rfl) (hd := dL_refuses_458) ?_
                                                    refine mx_bipushN 9 dL_refuses_459 (by decide) ?_
                                                    refine mx_iremN dL_refuses_461 (by omega) (by decide) ?_
                                                    refine mx_iaddN dL_refuses_462 ?_
                                                    refine mx_iconstN 0 dL_refuses_463 (by decide) ?_
                                                    refine mx_callS (bc := 80) (bs := 480) (As := [.ref a, .int (nI 4), .int (nI (x % (gP (zG z)))), .int (nI (4 + (x % 9))), .int (nI 0)]) (rest := []) (b1 := 2) (b2 := 12) dL_refuses_464 (lc_person G26 I26 a z hW26 (nI (x % (gP (zG z)))) (nI (4 + (x % 9))) (nI 0)) km_L_call rfl k_664 k_665 rfl rfl (Nat.le_of_ble_eq_true rfl) (by decide) (fun _ _ _ q => q.elim) (fun r57 G29 I29 h58 => ?_)
                                                    obtain ⟨e9, hQ29⟩ := h58
                                                    rw [tv_2 (ff_person2 hP8 (Nat.mod_lt _ hp0) _ (Nat.mod_lt _ (by decide)) : fl_person z (nI (x % (gP (zG z)))) (nI (4 + (x % 9))) = 2)] at e9
                                                    subst e9
                                                    have hA29 := hA26.tr hQ29
                                                    have hW29 := hQ29.1
                                                    refine mx_ldc (v := (-9999002)) k_638 dL_refuses_467 ?_
                                                    refine mx_icmp_ne (tgt := 561) dL_refuses_469 (by decide) (fun c469 => ?_) (fun c469 => ?_)
                                                    · skip
                                                      exact absurd rfl c469
                                                    · skip
                                                      refine mx_aload_n (i := 0) (hi := rfl) (hl := rfl) (hd := dL_refuses_472) ?_
                                                      refine mx_iconstN 5 dL_refuses_473 (by decide) ?_
                                                      refine mx_iload (i := 5) (hl := rfl) (hd := dL_refuses_474) ?_
                                                      refine mx_iconstN 0 dL_refuses_476 (by decide) ?_
                                                      refine mx_iload (i := 5) (hl := rfl) (hd := dL_refuses_477) ?_
                                                      refine mx_callS (bc := 78) (bs := 468) (As := [.ref a, .int (nI 5), .int (nI (x % (gP (zG z)))), .int (nI 0), .int (nI (x % (gP (zG z))))]) (rest := []) (b1 := 2) (b2 := 12) dL_refuses_479 (lc_find G29 I29 a z hW29 (nI (x % (gP (zG z)))) (nI 0) (nI (x % (gP (zG z))))) km_L_call rfl k_664 k_665 rfl rfl (Nat.le_of_ble_eq_true rfl) (by decide) (fun _ _ _ q => q.elim) (fun r59 G30 I30 h60 => ?_)
                                                      obtain ⟨e9, hQ30⟩ := h60
                                                      rw [tv_2 (ff_find2 hP8 (Nat.mod_lt _ hp0) _ : fl_find z (nI (x % (gP (zG z)))) (nI 0) (nI (x % (gP (zG z)))) = 2)] at e9
                                                      subst e9
                                                      have hA30 := hA29.tr hQ30
                                                      have hW30 := hQ30.1
                                                      refine mx_ldc (v := (-9999002)) k_638 dL_refuses_482 ?_
                                                      refine mx_icmp_ne (tgt := 561) dL_refuses_484 (by decide) (fun c484 => ?_) (fun c484 => ?_)
                                                      · skip
                                                        exact absurd rfl c484
                                                      · skip
                                                        refine mx_aload_n (i := 0) (hi := rfl) (hl := rfl) (hd := dL_refuses_487) ?_
                                                        refine mx_iload (i := 5) (hl := rfl) (hd := dL_refuses_488) ?_
                                                        refine mx_iconstN 0 dL_refuses_490 (by decide) ?_
                                                        refine mx_iload (i := 5) (hl := rfl) (hd := dL_refuses_491) ?_
                                                        refine mx_iconstN 1 dL_refuses_493 (by decide) ?_
                                                        refine mx_callSW (bc := 77) (bs := 462) (As := [.ref a, .int (nI (x % (gP (zG z)))), .int (nI 0), .int (nI (x % (gP (zG z)))), .int (nI 1)]) (rest := []) (b1 := 1) (b2 := 6) dL_refuses_494 (lw_addStep G30 I30 a z hW30 (nI (x % (gP (zG z)))) (nI 0) (nI (x % (gP (zG z)))) (nI 1)) km_L_tryBuild rfl k_969 k_970 rfl rfl (Nat.le_of_ble_eq_true rfl) (by decide) (fun _ _ _ q => q.elim) (fun r61 G31 I31 h62 => ?_)
                                                        obtain ⟨e9, hQ31⟩ := h62
                                                        rw [tv_2 (ff_build2 hP8 (Nat.mod_lt _ hp0) _ _ : gWhy (zG z) (nI (x % (gP (zG z)))) (nI 0) (nI (x % (gP (zG z)))) (nI 1) = 2)] at e9
                                                        rw [tz_n (by rw [(ff_build2 hP8 (Nat.mod_lt _ hp0) _ _ : gWhy (zG z) (nI (x % (gP (zG z)))) (nI 0) (nI (x % (gP (zG z)))) (nI 1) = 2)]; decide)] at hQ31
                                                        subst e9
                                                        have hA31 := hA30.tr hQ31
                                                        have hW31 := hQ31.1
                                                        refine mx_ldc (v := (-9999002)) k_638 dL_refuses_497 ?_
                                                        refine mx_icmp_ne (tgt := 561) dL_refuses_499 (by decide) (fun c499 => ?_) (fun c499 => ?_)
                                                        · skip
                                                          exact absurd rfl c499
                                                        · skip
                                                          refine mx_aload_n (i := 0) (hi := rfl) (hl := rfl) (hd := dL_refuses_502) ?_
                                                          refine mx_bipushN 16 dL_refuses_503 (by decide) ?_
                                                          refine mx_iload (i := 5) (hl := rfl) (hd := dL_refuses_505) ?_
                                                          refine mx_iload (i := 5) (hl := rfl) (hd := dL_refuses_507) ?_
                                                          refine mx_iconst (v := (-1)) (by decide) dL_refuses_509 ?_
                                                          refine mx_iload_n (i := 1) (hi := rfl) (hl := rfl) (hd := dL_refuses_510) ?_
                                                          refine mx_bipushN 9 dL_refuses_511 (by decide) ?_
                                                          refine mx_iremN dL_refuses_513 (by omega) (by decide) ?_
                                                          refine mx_isub dL_refuses_514 ?_
                                                          refine mx_callS (bc := 75) (bs := 450) (As := [.ref a, .int (nI 16), .int (nI (x % (gP (zG z)))), .int (nI (x % (gP (zG z)))), .int ((-1) - (nI (x % 9)))]) (rest := []) (b1 := 2) (b2 := 12) dL_refuses_515 (lc_pathAt G31 I31 a z hW31 (nI (x % (gP (zG z)))) (nI (x % (gP (zG z)))) ((-1) - (nI (x % 9)))) km_L_call rfl k_664 k_665 rfl rfl (Nat.le_of_ble_eq_true rfl) (by decide) (fun _ _ _ q => q.elim) (fun r63 G32 I32 h64 => ?_)
                                                          obtain ⟨e9, hQ32⟩ := h64
                                                          rw [tv_2 (ff_path2 hP8 (Nat.mod_lt _ hp0) _ (Nat.lt_of_lt_of_le (Nat.mod_lt _ (by decide)) (by decide : 9 ≤ 99)) : fl_pathAt z (nI (x % (gP (zG z)))) (nI (x % (gP (zG z)))) ((-1) - (nI (x % 9))) = 2)] at e9
                                                          subst e9
                                                          have hA32 := hA31.tr hQ32
                                                          have hW32 := hQ32.1
                                                          refine mx_ldc (v := (-9999002)) k_638 dL_refuses_518 ?_
                                                          refine mx_icmp_ne (tgt := 561) dL_refuses_520 (by decide) (fun c520 => ?_) (fun c520 => ?_)
                                                          · skip
                                                            exact absurd rfl c520
                                                          · skip
                                                            refine mx_aload_n (i := 0) (hi := rfl) (hl := rfl) (hd := dL_refuses_523) ?_
                                                            refine mx_bipushN 17 dL_refuses_524 (by decide) ?_
                                                            refine mx_iload (i := 5) (hl := rfl) (hd := dL_refuses_526) ?_
                                                            refine mx_iload (i := 5) (hl := rfl) (hd := dL_refuses_528) ?_
                                                            refine mx_iconstN 5 dL_refuses_530 (by decide) ?_
                                                            refine mx_callS (bc := 73) (bs := 438) (As := [.ref a, .int (nI 17), .int (nI (x % (gP (zG z)))), .int (nI (x % (gP (zG z)))), .int (nI 5)]) (rest := []) (b1 := 2) (b2 := 12) dL_refuses_531 (lc_paths G32 I32 a z hW32 (nI (x % (gP (zG z)))) (nI (x % (gP (zG z)))) (nI 5)) km_L_call rfl k_664 k_665 rfl rfl (Nat.le_of_ble_eq_true rfl) (by decide) (fun _ _ _ q => q.elim) (fun r65 G33 I33 h66 => ?_)
                                                            obtain ⟨e9, hQ33⟩ := h66
                                                            rw [tv_2 (ff_paths2 hP8 (Nat.mod_lt _ hp0) : fl_paths z (nI (x % (gP (zG z)))) (nI (x % (gP (zG z)))) (nI 5) = 2)] at e9
                                                            subst e9
                                                            have hA33 := hA32.tr hQ33
                                                            have hW33 := hQ33.1
                                                            refine mx_ldc (v := (-9999002)) k_638 dL_refuses_534 ?_
                                                            refine mx_icmp_ne (tgt := 561) dL_refuses_536 (by decide) (fun c536 => ?_) (fun c536 => ?_)
                                                            · skip
                                                              exact absurd rfl c536
                                                            · skip
                                                              refine mx_aload_n (i := 0) (hi := rfl) (hl := rfl) (hd := dL_refuses_539) ?_
                                                              refine mx_iload (i := 5) (hl := rfl) (hd := dL_refuses_540) ?_
                                                              refine mx_iconstN 1 dL_refuses_542 (by decide) ?_
                                                              refine mx_ldc2 (v := (1000)) k_986 dL_refuses_543 ?_
                                                              refine mx_iload_n (i := 1) (hi := rfl) (hl := rfl) (hd := dL_refuses_546) ?_
                                                              refine mx_i2l (hv := rfl) (hd := dL_refuses_547) ?_
                                                              refine mx_ladd dL_refuses_548 ?_
                                                              refine mx_callSW (bc := 70) (bs := 420) (As := [.ref a, .int (nI (x % (gP (zG z)))), .int (nI 1), .long ((1000) + ((nI x).toInt64))]) (rest := []) (b1 := 3) (b2 := 18) dL_refuses_549 (lw_follow G33 I33 a z hW33 (nI (x % (gP (zG z)))) (nI 1) ((1000) + ((nI x).toInt64))) km_L_tryFollow rfl k_978 k_979 rfl rfl (Nat.le_of_ble_eq_true rfl) (by decide) (fun _ _ _ q => q.elim) (fun r67 G34 I34 h68 => ?_)
                                                              obtain ⟨e9, hQ34⟩ := h68
                                                              rw [tv_2 (ff_follow2 hP8 (Nat.mod_lt _ hp0) hx : fl_follow z (nI (x % (gP (zG z)))) (nI 1) ((1000) + ((nI x).toInt64)) = 2)] at e9
                                                              subst e9
                                                              have hA34 := hA33.tr hQ34
                                                              have hW34 := hQ34.1
                                                              refine mx_ldc (v := (-9999002)) k_638 dL_refuses_552 ?_
                                                              refine mx_icmp_ne (tgt := 561) dL_refuses_554 (by decide) (fun c554 => ?_) (fun c554 => ?_)
                                                              · skip
                                                                exact absurd rfl c554
                                                              · skip
                                                                refine mx_iconstN 1 dL_refuses_557 (by decide) ?_
                                                                refine mx_goto (tgt := 562) dL_refuses_558 (by decide) ?_
                                                                refine mx_istoreE (i := 4) (ls' := [some (.ref a), some (.int (nI x)), some (.int (nI (gP (zG z)))), some (.int (nI (gN (zG z)))), some (.int (nI 1)), some (.int (nI (x % (gP (zG z)))))]) (hd := dL_refuses_562) (hn := by decide) (hok := rfl) (hls := rfl) ?_
                                                                refine mx_iload (i := 4) (hl := rfl) (hd := dL_refuses_564) ?_
                                                                refine mx_if1_eq 609 dL_refuses_566 (by decide) ?_
                                                                refine mx_iload_n (i := 3) (hi := rfl) (hl := rfl) (hd := dL_refuses_569) ?_
                                                                refine mx_ifN_eq 605 dL_refuses_570 (by decide) (by omega) (fun c570 => ?_) (fun c570 => ?_)
                                                                · skip
                                                                  refine mx_iconstN 1 dL_refuses_605 (by decide) ?_
                                                                  refine mx_goto (tgt := 610) dL_refuses_606 (by decide) ?_
                                                                  exact mx_iret dL_refuses_610 rfl (by decide) (⟨rfl, hA34⟩)
                                                                · skip
                                                                  have hs0 : 0 < gN (zG z) := by omega
                                                                  refine mx_aload_n (i := 0) (hi := rfl) (hl := rfl) (hd := dL_refuses_573) ?_
                                                                  refine mx_bipushN 9 dL_refuses_574 (by decide) ?_
                                                                  refine mx_iload_n (i := 1) (hi := rfl) (hl := rfl) (hd := dL_refuses_576) ?_
                                                                  refine mx_iload_n (i := 3) (hi := rfl) (hl := rfl) (hd := dL_refuses_577) ?_
                                                                  refine mx_iremN dL_refuses_578 (by omega) (by omega) ?_
                                                                  refine mx_bipushN 10 dL_refuses_579 (by decide) ?_
                                                                  refine mx_iconstN 0 dL_refuses_581 (by decide) ?_
                                                                  refine mx_callS (bc := 69) (bs := 414) (As := [.ref a, .int (nI 9), .int (nI (x % (gN (zG z)))), .int (nI 10), .int (nI 0)]) (rest := []) (b1 := 1) (b2 := 6) dL_refuses_582 (lc_setCost G34 I34 a z hW34 (nI (x % (gN (zG z)))) (nI 10) (nI 0)) km_L_call rfl k_664 k_665 rfl rfl (Nat.le_of_ble_eq_true rfl) (by decide) (fun _ _ _ q => q.elim) (fun r69 G35 I35 h70 => ?_)
                                                                  obtain ⟨e9, hQ35⟩ := h70
                                                                  rw [tv_2 (ff_price2 hN24 (Nat.mod_lt _ hs0) : fl_setCost z (nI (x % (gN (zG z)))) (nI 10) = 2)] at e9
                                                                  rw [tz_n (by rw [(ff_price2 hN24 (Nat.mod_lt _ hs0) : fl_setCost z (nI (x % (gN (zG z)))) (nI 10) = 2)]; decide)] at hQ35
                                                                  subst e9
                                                                  have hA35 := hA34.tr hQ35
                                                                  have hW35 := hQ35.1
                                                                  refine mx_ldc (v := (-9999002)) k_638 dL_refuses_585 ?_
                                                                  refine mx_icmp_ne (tgt := 609) dL_refuses_587 (by decide) (fun c587 => ?_) (fun c587 => ?_)
                                                                  · skip
                                                                    exact absurd rfl c587
                                                                  · skip
                                                                    refine mx_aload_n (i := 0) (hi := rfl) (hl := rfl) (hd := dL_refuses_590) ?_
                                                                    refine mx_iconstN 3 dL_refuses_591 (by decide) ?_
                                                                    refine mx_iload_n (i := 1) (hi := rfl) (hl := rfl) (hd := dL_refuses_592) ?_
                                                                    refine mx_iload_n (i := 3) (hi := rfl) (hl := rfl) (hd := dL_refuses_593) ?_
                                                                    refine mx_iremN dL_refuses_594 (by omega) (by omega) ?_
                                                                    refine mx_iconstN 4 dL_refuses_595 (by decide) ?_
                                                                    refine mx_iconstN 0 dL_refuses_596 (by decide) ?_
                                                                    refine mx_callS (bc := 67) (bs := 402) (As := [.ref a, .int (nI 3), .int (nI (x % (gN (zG z)))), .int (nI 4), .int (nI 0)]) (rest := []) (b1 := 2) (b2 := 12) dL_refuses_597 (lc_step G35 I35 a z hW35 (nI (x % (gN (zG z)))) (nI 4) (nI 0)) km_L_call rfl k_664 k_665 rfl rfl (Nat.le_of_ble_eq_true rfl) (by decide) (fun _ _ _ q => q.elim) (fun r71 G36 I36 h72 => ?_)
                                                                    obtain ⟨e9, hQ36⟩ := h72
                                                                    rw [tv_2 (ff_step2 hN24 (Nat.mod_lt _ hs0) : fl_step z (nI (x % (gN (zG z)))) (nI 4) = 2)] at e9
                                                                    subst e9
                                                                    have hA36 := hA35.tr hQ36
                                                                    have hW36 := hQ36.1
                                                                    refine mx_ldc (v := (-9999002)) k_638 dL_refuses_600 ?_
                                                                    refine mx_icmp_ne (tgt := 609) dL_refuses_602 (by decide) (fun c602 => ?_) (fun c602 => ?_)
                                                                    · skip
                                                                      exact absurd rfl c602
                                                                    · skip
                                                                      refine mx_iconstN 1 dL_refuses_605 (by decide) ?_
                                                                      refine mx_goto (tgt := 610) dL_refuses_606 (by decide) ?_
                                                                      exact mx_iret dL_refuses_610 rfl (by decide) (⟨rfl, hA36⟩)
