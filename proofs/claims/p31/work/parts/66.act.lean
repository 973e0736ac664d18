/-! THE LAW: act -/
/-- a number taken below n, 0 if there is none -/
def md (n y : Nat) : Nat := if n = 0 then 0 else y % n
theorem md_0 {n y : Nat} (h : n = 0) : md n y = 0 := if_pos h
theorem md_n {n y : Nat} (h : ¬ n = 0) : md n y = y % n := if_neg h
theorem md_le {n y : Nat} (h : n ≤ 24) : md n y < 24 := by
  unfold md
  split
  · decide
  · have := Nat.mod_lt y (show 0 < n by omega)
    omega
def cc2 (y : Nat) : Nat := if y / 4 % 2 = 0 then 42 else 43
def cc3 (y : Nat) : Nat := if y / 8 % 2 = 0 then 65 + y / 16 % 4 else 124
theorem cc2_0 {y : Nat} (h : y / 4 % 2 = 0) : cc2 y = 42 := if_pos h
theorem cc2_1 {y : Nat} (h : ¬ y / 4 % 2 = 0) : cc2 y = 43 := if_neg h
theorem cc3_0 {y : Nat} (h : y / 8 % 2 = 0) : cc3 y = 65 + y / 16 % 4 := if_pos h
theorem cc3_1 {y : Nat} (h : ¬ y / 8 % 2 = 0) : cc3 y = 124 := if_neg h
/-- one more character -/
def apZ (z : Zs) (c : Int32) : Int32 × Zs := (tv (fl_append z c) (nI (zN z + 1)), tz (fl_append z c) z (nx_append z c))
def tkZ (z : Zs) : Int32 × Zs := (tv (fl_take z) (nI (pL (rdF (zT z) (zN z)))), tz (fl_take z) z (nx_take z))
def zc0 (z : Zs) : Zs := ((0, zT z), z.2)
def zc1 (z : Zs) (y : Nat) : Zs := (apZ (zc0 z) (nI (97 + y % 4))).2
def zc2 (z : Zs) (y : Nat) : Zs := (apZ (zc1 z y) (nI (cc2 y))).2
def zc3 (z : Zs) (y : Nat) : Zs := (apZ (zc2 z y) (nI (cc3 y))).2
def zc4 (z : Zs) (y : Nat) : Zs := (apZ (zc3 z y) (nI 46)).2
/-- a pattern of one or two letters is written and taken -/
def ptZ (z : Zs) (y : Nat) : Int32 × Zs := ((apZ (zc0 z) (nI (97 + y % 4))).1 + (apZ (zc1 z y) (nI (cc2 y))).1 + (apZ (zc2 z y) (nI (cc3 y))).1 + (apZ (zc3 z y) (nI 46)).1 + (tkZ (zc4 z y)).1, (tkZ (zc4 z y)).2)
/-- what the law does to an object, by x and y -/
def acF (z : Zs) (k y : Nat) : Int32 × Zs := match k with
  | 0 => (tv (fl_addPerson z) (nI (gP (zG z))), tz (fl_addPerson z) z (nx_addPerson z))
  | 1 => (tv (fl_addPerson z) (nI (gP (zG z))), tz (fl_addPerson z) z (nx_addPerson z))
  | 2 => (tv (fl_one (gN (zG z)) (nI (md (gN (zG z)) (y / 16)))) (nI (gN (zG z) - 1)), tz (fl_one (gN (zG z)) (nI (md (gN (zG z)) (y / 16)))) z (nx_removeStep z (nI (md (gN (zG z)) (y / 16))).toInt.toNat))
  | 3 => (tv (fl_setCost z (nI (md (gN (zG z)) (y / 16))) (nI (1 + y / 256 % 9))) (nI (gC (zG z) (nI (md (gN (zG z)) (y / 16))).toInt.toNat)), tz (fl_setCost z (nI (md (gN (zG z)) (y / 16))) (nI (1 + y / 256 % 9))) z (nx_setCost z (nI (md (gN (zG z)) (y / 16))).toInt.toNat (nI (1 + y / 256 % 9)).toInt.toNat))
  | 4 => (tv (fl_turn z (nI (md (gN (zG z)) (y / 16)))) (nI (gT (zG z) (nI (md (gN (zG z)) (y / 16))).toInt.toNat)), tz (fl_turn z (nI (md (gN (zG z)) (y / 16)))) z (nx_turn z (nI (md (gN (zG z)) (y / 16))).toInt.toNat))
  | 5 => (tv (fl_exchange (nI (y % 4)) (nI (y / 4 % 4))) (nI (gCh (gK (zG z)) (nI (y % 4)).toInt.toNat (nI (y / 4 % 4)).toInt.toNat (gN (zG z)))), tz (fl_exchange (nI (y % 4)) (nI (y / 4 % 4))) z (nx_exchange z (nI (y % 4)).toInt.toNat (nI (y / 4 % 4)).toInt.toNat))
  | 6 => (tv (fl_undo z) (nI (zC z - 1)), tz (fl_undo z) z (nx_undo z))
  | 7 => (tv (fl_slot (nI (y % 2))) (nI (gN (zG z))), tz (fl_slot (nI (y % 2))) z (nx_save z (nI (y % 2)).toInt.toNat))
  | 8 => (tv (fl_restore z (nI (y % 2))) (nI (gN (zK z (nI (y % 2)).toInt.toNat).1)), tz (fl_restore z (nI (y % 2))) z (nx_restore z (nI (y % 2)).toInt.toNat))
  | 9 => ptZ z y
  | 10 => ptZ z y
  | _ => (tv (gWhy (zG z) (nI (md (gP (zG z)) y)) (nI (y / 64 % 4)) (nI (md (gP (zG z)) (y / 8))) (nI (1 + y / 256 % 9))) (nI (gN (zG z))), tz (gWhy (zG z) (nI (md (gP (zG z)) y)) (nI (y / 64 % 4)) (nI (md (gP (zG z)) (y / 8))) (nI (1 + y / 256 % 9))) z (nx_addStep z (nI (md (gP (zG z)) y)).toInt.toNat (nI (y / 64 % 4)).toInt.toNat (nI (md (gP (zG z)) (y / 8))).toInt.toNat (nI (1 + y / 256 % 9)).toInt.toNat))
theorem acv_0 (z : Zs) (y : Nat) : acF z 0 y = (tv (fl_addPerson z) (nI (gP (zG z))), tz (fl_addPerson z) z (nx_addPerson z)) := rfl
theorem acv_1 (z : Zs) (y : Nat) : acF z 1 y = (tv (fl_addPerson z) (nI (gP (zG z))), tz (fl_addPerson z) z (nx_addPerson z)) := rfl
theorem acv_2 (z : Zs) (y : Nat) : acF z 2 y = (tv (fl_one (gN (zG z)) (nI (md (gN (zG z)) (y / 16)))) (nI (gN (zG z) - 1)), tz (fl_one (gN (zG z)) (nI (md (gN (zG z)) (y / 16)))) z (nx_removeStep z (nI (md (gN (zG z)) (y / 16))).toInt.toNat)) := rfl
theorem acv_3 (z : Zs) (y : Nat) : acF z 3 y = (tv (fl_setCost z (nI (md (gN (zG z)) (y / 16))) (nI (1 + y / 256 % 9))) (nI (gC (zG z) (nI (md (gN (zG z)) (y / 16))).toInt.toNat)), tz (fl_setCost z (nI (md (gN (zG z)) (y / 16))) (nI (1 + y / 256 % 9))) z (nx_setCost z (nI (md (gN (zG z)) (y / 16))).toInt.toNat (nI (1 + y / 256 % 9)).toInt.toNat)) := rfl
theorem acv_4 (z : Zs) (y : Nat) : acF z 4 y = (tv (fl_turn z (nI (md (gN (zG z)) (y / 16)))) (nI (gT (zG z) (nI (md (gN (zG z)) (y / 16))).toInt.toNat)), tz (fl_turn z (nI (md (gN (zG z)) (y / 16)))) z (nx_turn z (nI (md (gN (zG z)) (y / 16))).toInt.toNat)) := rfl
theorem acv_5 (z : Zs) (y : Nat) : acF z 5 y = (tv (fl_exchange (nI (y % 4)) (nI (y / 4 % 4))) (nI (gCh (gK (zG z)) (nI (y % 4)).toInt.toNat (nI (y / 4 % 4)).toInt.toNat (gN (zG z)))), tz (fl_exchange (nI (y % 4)) (nI (y / 4 % 4))) z (nx_exchange z (nI (y % 4)).toInt.toNat (nI (y / 4 % 4)).toInt.toNat)) := rfl
theorem acv_6 (z : Zs) (y : Nat) : acF z 6 y = (tv (fl_undo z) (nI (zC z - 1)), tz (fl_undo z) z (nx_undo z)) := rfl
theorem acv_7 (z : Zs) (y : Nat) : acF z 7 y = (tv (fl_slot (nI (y % 2))) (nI (gN (zG z))), tz (fl_slot (nI (y % 2))) z (nx_save z (nI (y % 2)).toInt.toNat)) := rfl
theorem acv_8 (z : Zs) (y : Nat) : acF z 8 y = (tv (fl_restore z (nI (y % 2))) (nI (gN (zK z (nI (y % 2)).toInt.toNat).1)), tz (fl_restore z (nI (y % 2))) z (nx_restore z (nI (y % 2)).toInt.toNat)) := rfl
theorem acv_9 (z : Zs) (y : Nat) : acF z 9 y = ptZ z y := rfl
theorem acv_10 (z : Zs) (y : Nat) : acF z 10 y = ptZ z y := rfl
theorem acv_11 (z : Zs) (y : Nat) : acF z 11 y = (tv (gWhy (zG z) (nI (md (gP (zG z)) y)) (nI (y / 64 % 4)) (nI (md (gP (zG z)) (y / 8))) (nI (1 + y / 256 % 9))) (nI (gN (zG z))), tz (gWhy (zG z) (nI (md (gP (zG z)) y)) (nI (y / 64 % 4)) (nI (md (gP (zG z)) (y / 8))) (nI (1 + y / 256 % 9))) z (nx_addStep z (nI (md (gP (zG z)) y)).toInt.toNat (nI (y / 64 % 4)).toInt.toNat (nI (md (gP (zG z)) (y / 8))).toInt.toNat (nI (1 + y / 256 % 9)).toInt.toNat)) := rfl
theorem acv_12 (z : Zs) (y : Nat) : acF z 12 y = (tv (gWhy (zG z) (nI (md (gP (zG z)) y)) (nI (y / 64 % 4)) (nI (md (gP (zG z)) (y / 8))) (nI (1 + y / 256 % 9))) (nI (gN (zG z))), tz (gWhy (zG z) (nI (md (gP (zG z)) y)) (nI (y / 64 % 4)) (nI (md (gP (zG z)) (y / 8))) (nI (1 + y / 256 % 9))) z (nx_addStep z (nI (md (gP (zG z)) y)).toInt.toNat (nI (y / 64 % 4)).toInt.toNat (nI (md (gP (zG z)) (y / 8))).toInt.toNat (nI (1 + y / 256 % 9)).toInt.toNat)) := rfl
theorem acv_13 (z : Zs) (y : Nat) : acF z 13 y = (tv (gWhy (zG z) (nI (md (gP (zG z)) y)) (nI (y / 64 % 4)) (nI (md (gP (zG z)) (y / 8))) (nI (1 + y / 256 % 9))) (nI (gN (zG z))), tz (gWhy (zG z) (nI (md (gP (zG z)) y)) (nI (y / 64 % 4)) (nI (md (gP (zG z)) (y / 8))) (nI (1 + y / 256 % 9))) z (nx_addStep z (nI (md (gP (zG z)) y)).toInt.toNat (nI (y / 64 % 4)).toInt.toNat (nI (md (gP (zG z)) (y / 8))).toInt.toNat (nI (1 + y / 256 % 9)).toInt.toNat)) := rfl
theorem acv_14 (z : Zs) (y : Nat) : acF z 14 y = (tv (gWhy (zG z) (nI (md (gP (zG z)) y)) (nI (y / 64 % 4)) (nI (md (gP (zG z)) (y / 8))) (nI (1 + y / 256 % 9))) (nI (gN (zG z))), tz (gWhy (zG z) (nI (md (gP (zG z)) y)) (nI (y / 64 % 4)) (nI (md (gP (zG z)) (y / 8))) (nI (1 + y / 256 % 9))) z (nx_addStep z (nI (md (gP (zG z)) y)).toInt.toNat (nI (y / 64 % 4)).toInt.toNat (nI (md (gP (zG z)) (y / 8))).toInt.toNat (nI (1 + y / 256 % 9)).toInt.toNat)) := rfl
theorem acv_15 (z : Zs) (y : Nat) : acF z 15 y = (tv (gWhy (zG z) (nI (md (gP (zG z)) y)) (nI (y / 64 % 4)) (nI (md (gP (zG z)) (y / 8))) (nI (1 + y / 256 % 9))) (nI (gN (zG z))), tz (gWhy (zG z) (nI (md (gP (zG z)) y)) (nI (y / 64 % 4)) (nI (md (gP (zG z)) (y / 8))) (nI (1 + y / 256 % 9))) z (nx_addStep z (nI (md (gP (zG z)) y)).toInt.toNat (nI (y / 64 % 4)).toInt.toNat (nI (md (gP (zG z)) (y / 8))).toInt.toNat (nI (1 + y / 256 % 9)).toInt.toNat)) := rfl
theorem ptZ_e (z : Zs) (y : Nat) : ptZ z y = ((apZ (zc0 z) (nI (97 + y % 4))).1 + (apZ (zc1 z y) (nI (cc2 y))).1 + (apZ (zc2 z y) (nI (cc3 y))).1 + (apZ (zc3 z y) (nI 46)).1 + (tkZ (zc4 z y)).1, (tkZ (zc4 z y)).2) := rfl
theorem tz_J {f : Nat} {z nx : Zs} (h : zJ z) (h2 : f = 0 → zJ nx) : zJ (tz f z nx) := by
  by_cases e : f = 0
  · rw [tz_0 e]; exact h2 e
  · rw [tz_n e]; exact h
theorem apZ_J {z : Zs} (h : zJ z) (c : Int32) : zJ (apZ z c).2 := tz_J h (fun _ => zj_append h c)
theorem ptZ_J {z : Zs} (h : zJ z) (y : Nat) : zJ (ptZ z y).2 := by
  have h4 : zJ (zc4 z y) := apZ_J (apZ_J (apZ_J (apZ_J (zj_txt h _) _) _) _) _
  exact tz_J h4 (fun _ => zj_take h4)
theorem acF_J {z : Zs} (h : zJ z) (k y : Nat) : zJ (acF z k y).2 := by
  match k with
  | 0 => exact tz_J h (fun _ => zj_addPerson h)
  | 1 => exact tz_J h (fun _ => zj_addPerson h)
  | 2 => exact tz_J h (fun e => zj_removeStep h e)
  | 3 => exact tz_J h (fun _ => zj_setCost h _ _)
  | 4 => exact tz_J h (fun e => zj_turn h e)
  | 5 => exact tz_J h (fun _ => zj_exchange h _ _)
  | 6 => exact tz_J h (fun e => zj_undo h e)
  | 7 => exact tz_J h (fun _ => zj_save h _)
  | 8 => exact tz_J h (fun e => zj_restore h e)
  | 9 => exact ptZ_J h y
  | 10 => exact ptZ_J h y
  | n + 11 => exact tz_J h (fun e => zj_addStep h e)

set_option maxHeartbeats 4000000 in
set_option maxRecDepth 100000 in
theorem lr_act (G : mx_G) (I : mx_I) (a : Nat) (z : Zs) (hW0 : cW G I a z) (x y : Nat) (hx : x < 2 ^ 31) (hy : y < 2 ^ 31) : mx_CT yL_act mL_act 11 22 182 [.ref a, .int (nI x), .int (nI y)] G I (fun rv Gz Iz => rv = some (.int (acF z (x % 16) y).1) ∧ cP G I a (acF z (x % 16) y).2 Gz Iz) (fun _ _ _ => False) := by
  refine mx_start (k := 8) (by decide) rfl rfl (fun h => nomatch h) (Nat.le_of_ble_eq_true rfl) ?_
  show mx_V mL_act mx_S0 11 22 182 0 [some (.ref a), some (.int (nI x)), some (.int (nI y)), none, none, none, none, none, none, none, none] [] G I (fun rv Gz Iz => rv = some (.int (acF z (x % 16) y).1) ∧ cP G I a (acF z (x % 16) y).2 Gz Iz) (fun _ _ _ => False)
  have hP8 := hW0.P8
  have hN24 := hW0.N24
  have J64 : ∀ (G1 : mx_G) (I1 : mx_I), (cP G I a z G1 I1) → mx_V mL_act mx_S0 11 20 170 64 [some (.ref a), some (.int (nI x)), some (.int (nI y)), some (.int (nI (gP (zG z)))), some (.int (nI (gN (zG z)))), some (.int (nI (md (gP (zG z)) y))), some (.int (nI (md (gP (zG z)) (y / 8)))), none, none, none, none] [.int (nI (md (gN (zG z)) (y / 16)))] G1 I1 (fun rv Gz Iz => rv = some (.int (acF z (x % 16) y).1) ∧ cP G I a (acF z (x % 16) y).2 Gz Iz) (fun _ _ _ => False) := by
    intro G1 I1 hA
    have hW := hA.1
    refine mx_istoreE (i := 7) (ls' := [some (.ref a), some (.int (nI x)), some (.int (nI y)), some (.int (nI (gP (zG z)))), some (.int (nI (gN (zG z)))), some (.int (nI (md (gP (zG z)) y))), some (.int (nI (md (gP (zG z)) (y / 8)))), some (.int (nI (md (gN (zG z)) (y / 16)))), none, none, none]) (hd := dL_act_64) (hn := by decide) (hok := rfl) (hls := rfl) ?_
    refine mx_iload_n (i := 1) (hi := rfl) (hl := rfl) (hd := dL_act_66) ?_
    refine mx_bipushN 16 dL_act_67 (by decide) ?_
    refine mx_iremN dL_act_69 (by omega) (by decide) ?_
    obtain ⟨k9, hk9, hk8⟩ : ∃ k, x % 16 = k ∧ k < 16 := ⟨_, rfl, Nat.mod_lt _ (by decide)⟩
    rw [hk9]
    rcases (show k9 = 0 ∨ k9 = 1 ∨ k9 = 2 ∨ k9 = 3 ∨ k9 = 4 ∨ k9 = 5 ∨ k9 = 6 ∨ k9 = 7 ∨ k9 = 8 ∨ k9 = 9 ∨ k9 = 10 ∨ k9 = 11 ∨ k9 = 12 ∨ k9 = 13 ∨ k9 = 14 ∨ k9 = 15 by omega) with rfl | rfl | rfl | rfl | rfl | rfl | rfl | rfl | rfl | rfl | rfl | rfl | rfl | rfl | rfl | rfl
    · skip
      refine mx_tabIn (tgt := 128) dL_act_70 (by decide) (by decide) rfl (by decide) ?_
      refine mx_aload_n (i := 0) (hi := rfl) (hl := rfl) (hd := dL_act_128) ?_
      refine mx_bipushN 7 dL_act_129 (by decide) ?_
      refine mx_iconstN 0 dL_act_131 (by decide) ?_
      refine mx_iconstN 0 dL_act_132 (by decide) ?_
      refine mx_iconstN 0 dL_act_133 (by decide) ?_
      refine mx_callS (bc := 19) (bs := 164) (As := [.ref a, .int (nI 7), .int (nI 0), .int (nI 0), .int (nI 0)]) (rest := []) (b1 := 1) (b2 := 6) dL_act_134 (lc_addPerson G1 I1 a z hW (nI 0) (nI 0) (nI 0)) km_L_call rfl k_664 k_665 rfl rfl (Nat.le_of_ble_eq_true rfl) (by decide) (fun _ _ _ q => q.elim) (fun r1 G1 I1 h2 => ?_)
      obtain ⟨e9, hQ1⟩ := h2
      subst e9
      have hA1 := hA.tr hQ1
      have hW1 := hQ1.1
      exact mx_iret dL_act_137 rfl rfl (⟨by rw [acv_0], by rw [acv_0]; exact hA1⟩)
    · skip
      refine mx_tabIn (tgt := 128) dL_act_70 (by decide) (by decide) rfl (by decide) ?_
      refine mx_aload_n (i := 0) (hi := rfl) (hl := rfl) (hd := dL_act_128) ?_
      refine mx_bipushN 7 dL_act_129 (by decide) ?_
      refine mx_iconstN 0 dL_act_131 (by decide) ?_
      refine mx_iconstN 0 dL_act_132 (by decide) ?_
      refine mx_iconstN 0 dL_act_133 (by decide) ?_
      refine mx_callS (bc := 19) (bs := 164) (As := [.ref a, .int (nI 7), .int (nI 0), .int (nI 0), .int (nI 0)]) (rest := []) (b1 := 1) (b2 := 6) dL_act_134 (lc_addPerson G1 I1 a z hW (nI 0) (nI 0) (nI 0)) km_L_call rfl k_664 k_665 rfl rfl (Nat.le_of_ble_eq_true rfl) (by decide) (fun _ _ _ q => q.elim) (fun r3 G2 I2 h4 => ?_)
      obtain ⟨e9, hQ2⟩ := h4
      subst e9
      have hA2 := hA.tr hQ2
      have hW2 := hQ2.1
      exact mx_iret dL_act_137 rfl rfl (⟨by rw [acv_1], by rw [acv_1]; exact hA2⟩)
    · skip
      refine mx_tabIn (tgt := 138) dL_act_70 (by decide) (by decide) rfl (by decide) ?_
      refine mx_aload_n (i := 0) (hi := rfl) (hl := rfl) (hd := dL_act_138) ?_
      refine mx_bipushN 8 dL_act_139 (by decide) ?_
      refine mx_iload (i := 7) (hl := rfl) (hd := dL_act_141) ?_
      refine mx_iconstN 0 dL_act_143 (by decide) ?_
      refine mx_iconstN 0 dL_act_144 (by decide) ?_
      refine mx_callS (bc := 19) (bs := 164) (As := [.ref a, .int (nI 8), .int (nI (md (gN (zG z)) (y / 16))), .int (nI 0), .int (nI 0)]) (rest := []) (b1 := 1) (b2 := 6) dL_act_145 (lc_removeStep G1 I1 a z hW (nI (md (gN (zG z)) (y / 16))) (nI 0) (nI 0)) km_L_call rfl k_664 k_665 rfl rfl (Nat.le_of_ble_eq_true rfl) (by decide) (fun _ _ _ q => q.elim) (fun r5 G3 I3 h6 => ?_)
      obtain ⟨e9, hQ3⟩ := h6
      subst e9
      have hA3 := hA.tr hQ3
      have hW3 := hQ3.1
      exact mx_iret dL_act_148 rfl rfl (⟨by rw [acv_2], by rw [acv_2]; exact hA3⟩)
    · skip
      refine mx_tabIn (tgt := 149) dL_act_70 (by decide) (by decide) rfl (by decide) ?_
      refine mx_aload_n (i := 0) (hi := rfl) (hl := rfl) (hd := dL_act_149) ?_
      refine mx_bipushN 9 dL_act_150 (by decide) ?_
      refine mx_iload (i := 7) (hl := rfl) (hd := dL_act_152) ?_
      refine mx_iconstN 1 dL_act_154 (by decide) ?_
      refine mx_iload_n (i := 2) (hi := rfl) (hl := rfl) (hd := dL_act_155) ?_
      refine mx_sipushN 256 dL_act_156 (by decide) ?_
      refine mx_idivN dL_act_159 (by omega) (by decide) ?_
      refine mx_bipushN 9 dL_act_160 (by decide) ?_
      refine mx_iremN dL_act_162 (by omega) (by decide) ?_
      refine mx_iaddN dL_act_163 ?_
      refine mx_iconstN 0 dL_act_164 (by decide) ?_
      refine mx_callS (bc := 19) (bs := 164) (As := [.ref a, .int (nI 9), .int (nI (md (gN (zG z)) (y / 16))), .int (nI (1 + ((y / 256) % 9))), .int (nI 0)]) (rest := []) (b1 := 1) (b2 := 6) dL_act_165 (lc_setCost G1 I1 a z hW (nI (md (gN (zG z)) (y / 16))) (nI (1 + ((y / 256) % 9))) (nI 0)) km_L_call rfl k_664 k_665 rfl rfl (Nat.le_of_ble_eq_true rfl) (by decide) (fun _ _ _ q => q.elim) (fun r7 G4 I4 h8 => ?_)
      obtain ⟨e9, hQ4⟩ := h8
      subst e9
      have hA4 := hA.tr hQ4
      have hW4 := hQ4.1
      exact mx_iret dL_act_168 rfl rfl (⟨by rw [acv_3], by rw [acv_3]; exact hA4⟩)
    · skip
      refine mx_tabIn (tgt := 169) dL_act_70 (by decide) (by decide) rfl (by decide) ?_
      refine mx_aload_n (i := 0) (hi := rfl) (hl := rfl) (hd := dL_act_169) ?_
      refine mx_bipushN 10 dL_act_170 (by decide) ?_
      refine mx_iload (i := 7) (hl := rfl) (hd := dL_act_172) ?_
      refine mx_iconstN 0 dL_act_174 (by decide) ?_
      refine mx_iconstN 0 dL_act_175 (by decide) ?_
      refine mx_callS (bc := 19) (bs := 164) (As := [.ref a, .int (nI 10), .int (nI (md (gN (zG z)) (y / 16))), .int (nI 0), .int (nI 0)]) (rest := []) (b1 := 1) (b2 := 6) dL_act_176 (lc_turn G1 I1 a z hW (nI (md (gN (zG z)) (y / 16))) (nI 0) (nI 0)) km_L_call rfl k_664 k_665 rfl rfl (Nat.le_of_ble_eq_true rfl) (by decide) (fun _ _ _ q => q.elim) (fun r9 G5 I5 h10 => ?_)
      obtain ⟨e9, hQ5⟩ := h10
      subst e9
      have hA5 := hA.tr hQ5
      have hW5 := hQ5.1
      exact mx_iret dL_act_179 rfl rfl (⟨by rw [acv_4], by rw [acv_4]; exact hA5⟩)
    · skip
      refine mx_tabIn (tgt := 180) dL_act_70 (by decide) (by decide) rfl (by decide) ?_
      refine mx_aload_n (i := 0) (hi := rfl) (hl := rfl) (hd := dL_act_180) ?_
      refine mx_bipushN 11 dL_act_181 (by decide) ?_
      refine mx_iload_n (i := 2) (hi := rfl) (hl := rfl) (hd := dL_act_183) ?_
      refine mx_iconstN 4 dL_act_184 (by decide) ?_
      refine mx_iremN dL_act_185 (by omega) (by decide) ?_
      refine mx_iload_n (i := 2) (hi := rfl) (hl := rfl) (hd := dL_act_186) ?_
      refine mx_iconstN 4 dL_act_187 (by decide) ?_
      refine mx_idivN dL_act_188 (by omega) (by decide) ?_
      refine mx_iconstN 4 dL_act_189 (by decide) ?_
      refine mx_iremN dL_act_190 (by omega) (by decide) ?_
      refine mx_iconstN 0 dL_act_191 (by decide) ?_
      refine mx_callS (bc := 19) (bs := 164) (As := [.ref a, .int (nI 11), .int (nI (y % 4)), .int (nI ((y / 4) % 4)), .int (nI 0)]) (rest := []) (b1 := 1) (b2 := 6) dL_act_192 (lc_exchange G1 I1 a z hW (nI (y % 4)) (nI ((y / 4) % 4)) (nI 0)) km_L_call rfl k_664 k_665 rfl rfl (Nat.le_of_ble_eq_true rfl) (by decide) (fun _ _ _ q => q.elim) (fun r11 G6 I6 h12 => ?_)
      obtain ⟨e9, hQ6⟩ := h12
      subst e9
      have hA6 := hA.tr hQ6
      have hW6 := hQ6.1
      exact mx_iret dL_act_195 rfl rfl (⟨by rw [acv_5], by rw [acv_5]; exact hA6⟩)
    · skip
      refine mx_tabIn (tgt := 196) dL_act_70 (by decide) (by decide) rfl (by decide) ?_
      refine mx_aload_n (i := 0) (hi := rfl) (hl := rfl) (hd := dL_act_196) ?_
      refine mx_bipushN 13 dL_act_197 (by decide) ?_
      refine mx_iconstN 0 dL_act_199 (by decide) ?_
      refine mx_iconstN 0 dL_act_200 (by decide) ?_
      refine mx_iconstN 0 dL_act_201 (by decide) ?_
      refine mx_callS (bc := 19) (bs := 164) (As := [.ref a, .int (nI 13), .int (nI 0), .int (nI 0), .int (nI 0)]) (rest := []) (b1 := 1) (b2 := 6) dL_act_202 (lc_undo G1 I1 a z hW (nI 0) (nI 0) (nI 0)) km_L_call rfl k_664 k_665 rfl rfl (Nat.le_of_ble_eq_true rfl) (by decide) (fun _ _ _ q => q.elim) (fun r13 G7 I7 h14 => ?_)
      obtain ⟨e9, hQ7⟩ := h14
      subst e9
      have hA7 := hA.tr hQ7
      have hW7 := hQ7.1
      exact mx_iret dL_act_205 rfl rfl (⟨by rw [acv_6], by rw [acv_6]; exact hA7⟩)
    · skip
      refine mx_tabIn (tgt := 206) dL_act_70 (by decide) (by decide) rfl (by decide) ?_
      refine mx_aload_n (i := 0) (hi := rfl) (hl := rfl) (hd := dL_act_206) ?_
      refine mx_bipushN 20 dL_act_207 (by decide) ?_
      refine mx_iload_n (i := 2) (hi := rfl) (hl := rfl) (hd := dL_act_209) ?_
      refine mx_iconstN 2 dL_act_210 (by decide) ?_
      refine mx_iremN dL_act_211 (by omega) (by decide) ?_
      refine mx_iconstN 0 dL_act_212 (by decide) ?_
      refine mx_iconstN 0 dL_act_213 (by decide) ?_
      refine mx_callS (bc := 19) (bs := 164) (As := [.ref a, .int (nI 20), .int (nI (y % 2)), .int (nI 0), .int (nI 0)]) (rest := []) (b1 := 1) (b2 := 6) dL_act_214 (lc_save G1 I1 a z hW (nI (y % 2)) (nI 0) (nI 0)) km_L_call rfl k_664 k_665 rfl rfl (Nat.le_of_ble_eq_true rfl) (by decide) (fun _ _ _ q => q.elim) (fun r15 G8 I8 h16 => ?_)
      obtain ⟨e9, hQ8⟩ := h16
      subst e9
      have hA8 := hA.tr hQ8
      have hW8 := hQ8.1
      exact mx_iret dL_act_217 rfl rfl (⟨by rw [acv_7], by rw [acv_7]; exact hA8⟩)
    · skip
      refine mx_tabIn (tgt := 218) dL_act_70 (by decide) (by decide) rfl (by decide) ?_
      refine mx_aload_n (i := 0) (hi := rfl) (hl := rfl) (hd := dL_act_218) ?_
      refine mx_bipushN 21 dL_act_219 (by decide) ?_
      refine mx_iload_n (i := 2) (hi := rfl) (hl := rfl) (hd := dL_act_221) ?_
      refine mx_iconstN 2 dL_act_222 (by decide) ?_
      refine mx_iremN dL_act_223 (by omega) (by decide) ?_
      refine mx_iconstN 0 dL_act_224 (by decide) ?_
      refine mx_iconstN 0 dL_act_225 (by decide) ?_
      refine mx_callS (bc := 18) (bs := 158) (As := [.ref a, .int (nI 21), .int (nI (y % 2)), .int (nI 0), .int (nI 0)]) (rest := []) (b1 := 2) (b2 := 12) dL_act_226 (lc_restore G1 I1 a z hW (nI (y % 2)) (nI 0) (nI 0)) km_L_call rfl k_664 k_665 rfl rfl (Nat.le_of_ble_eq_true rfl) (by decide) (fun _ _ _ q => q.elim) (fun r17 G9 I9 h18 => ?_)
      obtain ⟨e9, hQ9⟩ := h18
      subst e9
      have hA9 := hA.tr hQ9
      have hW9 := hQ9.1
      exact mx_iret dL_act_229 rfl rfl (⟨by rw [acv_8], by rw [acv_8]; exact hA9⟩)
    · skip
      refine mx_tabIn (tgt := 230) dL_act_70 (by decide) (by decide) rfl (by decide) ?_
      have tg8 : mx_tg G1 a = 19 := hW.1.1.1
      refine mx_aload_n (i := 0) (hi := rfl) (hl := rfl) (hd := dL_act_230) ?_
      refine mx_callV (bc := 20) (bs := 170) (ci := 9) (As := []) (rest := []) (b1 := 0) (b2 := 0) dL_act_231 (ct_clearText G1 I1 a z hW) km_X9_clearText rfl k_1000 k_1001 k_1002 (by assumption) rfl rfl (Nat.le_of_ble_eq_true rfl) (by decide) (fun _ _ _ q => q.elim) (fun r19 G10 I10 h20 => ?_)
      obtain ⟨e9, hQ10⟩ := h20
      subst e9
      have hQ10 : cP G1 I1 a (zc0 z) G10 I10 := hQ10
      have hA10 := hA.tr hQ10
      have hW10 := hQ10.1
      refine mx_pop (hva := rfl) (hd := dL_act_234) ?_
      refine mx_aload_n (i := 0) (hi := rfl) (hl := rfl) (hd := dL_act_235) ?_
      refine mx_iconstN 0 dL_act_236 (by decide) ?_
      refine mx_bipushN 97 dL_act_237 (by decide) ?_
      refine mx_iload_n (i := 2) (hi := rfl) (hl := rfl) (hd := dL_act_239) ?_
      refine mx_iconstN 4 dL_act_240 (by decide) ?_
      refine mx_iremN dL_act_241 (by omega) (by decide) ?_
      refine mx_iaddN dL_act_242 ?_
      refine mx_iconstN 0 dL_act_243 (by decide) ?_
      refine mx_iconstN 0 dL_act_244 (by decide) ?_
      refine mx_callS (bc := 18) (bs := 158) (As := [.ref a, .int (nI 0), .int (nI (97 + (y % 4))), .int (nI 0), .int (nI 0)]) (rest := []) (b1 := 2) (b2 := 12) dL_act_245 (lc_append G10 I10 a (zc0 z) hW10 (nI (97 + (y % 4))) (nI 0) (nI 0)) km_L_call rfl k_664 k_665 rfl rfl (Nat.le_of_ble_eq_true rfl) (by decide) (fun _ _ _ q => q.elim) (fun r21 G11 I11 h22 => ?_)
      obtain ⟨e9, hQ11⟩ := h22
      have e9 : r21 = some (.int (apZ (zc0 z) (nI (97 + (y % 4)))).1) := e9
      have hQ11 : cP G10 I10 a (zc1 z y) G11 I11 := hQ11
      subst e9
      have hA11 := hA10.tr hQ11
      have hW11 := hQ11.1
      refine mx_istoreE (i := 8) (ls' := [some (.ref a), some (.int (nI x)), some (.int (nI y)), some (.int (nI (gP (zG z)))), some (.int (nI (gN (zG z)))), some (.int (nI (md (gP (zG z)) y))), some (.int (nI (md (gP (zG z)) (y / 8)))), some (.int (nI (md (gN (zG z)) (y / 16)))), some (.int ((apZ (zc0 z) (nI (97 + (y % 4)))).1)), none, none]) (hd := dL_act_248) (hn := by decide) (hok := rfl) (hls := rfl) ?_
      refine mx_aload_n (i := 0) (hi := rfl) (hl := rfl) (hd := dL_act_250) ?_
      refine mx_iconstN 0 dL_act_251 (by decide) ?_
      refine mx_iload_n (i := 2) (hi := rfl) (hl := rfl) (hd := dL_act_252) ?_
      refine mx_iconstN 4 dL_act_253 (by decide) ?_
      refine mx_idivN dL_act_254 (by omega) (by decide) ?_
      refine mx_iconstN 2 dL_act_255 (by decide) ?_
      refine mx_iremN dL_act_256 (by omega) (by decide) ?_
      refine mx_ifN_ne 265 dL_act_257 (by decide) (by omega) (fun c257 => ?_) (fun c257 => ?_)
      · skip
        refine mx_bipushN 43 dL_act_265 (by decide) ?_
        refine mx_top (y := nI (cc2 y)) (congrArg nI (cc2_1 c257).symm) ?_
        refine mx_iconstN 0 dL_act_267 (by decide) ?_
        refine mx_iconstN 0 dL_act_268 (by decide) ?_
        refine mx_callS (bc := 16) (bs := 146) (As := [.ref a, .int (nI 0), .int (nI (cc2 y)), .int (nI 0), .int (nI 0)]) (rest := []) (b1 := 2) (b2 := 12) dL_act_269 (lc_append G11 I11 a (zc1 z y) hW11 (nI (cc2 y)) (nI 0) (nI 0)) km_L_call rfl k_664 k_665 rfl rfl (Nat.le_of_ble_eq_true rfl) (by decide) (fun _ _ _ q => q.elim) (fun r23 G12 I12 h24 => ?_)
        obtain ⟨e9, hQ12⟩ := h24
        have e9 : r23 = some (.int (apZ (zc1 z y) (nI (cc2 y))).1) := e9
        have hQ12 : cP G11 I11 a (zc2 z y) G12 I12 := hQ12
        subst e9
        have hA12 := hA11.tr hQ12
        have hW12 := hQ12.1
        refine mx_istoreE (i := 9) (ls' := [some (.ref a), some (.int (nI x)), some (.int (nI y)), some (.int (nI (gP (zG z)))), some (.int (nI (gN (zG z)))), some (.int (nI (md (gP (zG z)) y))), some (.int (nI (md (gP (zG z)) (y / 8)))), some (.int (nI (md (gN (zG z)) (y / 16)))), some (.int ((apZ (zc0 z) (nI (97 + (y % 4)))).1)), some (.int ((apZ (zc1 z y) (nI (cc2 y))).1)), none]) (hd := dL_act_272) (hn := by decide) (hok := rfl) (hls := rfl) ?_
        refine mx_aload_n (i := 0) (hi := rfl) (hl := rfl) (hd := dL_act_274) ?_
        refine mx_iconstN 0 dL_act_275 (by decide) ?_
        refine mx_iload_n (i := 2) (hi := rfl) (hl := rfl) (hd := dL_act_276) ?_
        refine mx_bipushN 8 dL_act_277 (by decide) ?_
        refine mx_idivN dL_act_279 (by omega) (by decide) ?_
        refine mx_iconstN 2 dL_act_280 (by decide) ?_
        refine mx_iremN dL_act_281 (by omega) (by decide) ?_
        refine mx_ifN_ne 297 dL_act_282 (by decide) (by omega) (fun c282 => ?_) (fun c282 => ?_)
        · skip
          refine mx_bipushN 124 dL_act_297 (by decide) ?_
          refine mx_top (y := nI (cc3 y)) (congrArg nI (cc3_1 c282).symm) ?_
          refine mx_iconstN 0 dL_act_299 (by decide) ?_
          refine mx_iconstN 0 dL_act_300 (by decide) ?_
          refine mx_callS (bc := 14) (bs := 134) (As := [.ref a, .int (nI 0), .int (nI (cc3 y)), .int (nI 0), .int (nI 0)]) (rest := []) (b1 := 2) (b2 := 12) dL_act_301 (lc_append G12 I12 a (zc2 z y) hW12 (nI (cc3 y)) (nI 0) (nI 0)) km_L_call rfl k_664 k_665 rfl rfl (Nat.le_of_ble_eq_true rfl) (by decide) (fun _ _ _ q => q.elim) (fun r25 G13 I13 h26 => ?_)
          obtain ⟨e9, hQ13⟩ := h26
          have e9 : r25 = some (.int (apZ (zc2 z y) (nI (cc3 y))).1) := e9
          have hQ13 : cP G12 I12 a (zc3 z y) G13 I13 := hQ13
          subst e9
          have hA13 := hA12.tr hQ13
          have hW13 := hQ13.1
          refine mx_istoreE (i := 10) (ls' := [some (.ref a), some (.int (nI x)), some (.int (nI y)), some (.int (nI (gP (zG z)))), some (.int (nI (gN (zG z)))), some (.int (nI (md (gP (zG z)) y))), some (.int (nI (md (gP (zG z)) (y / 8)))), some (.int (nI (md (gN (zG z)) (y / 16)))), some (.int ((apZ (zc0 z) (nI (97 + (y % 4)))).1)), some (.int ((apZ (zc1 z y) (nI (cc2 y))).1)), some (.int ((apZ (zc2 z y) (nI (cc3 y))).1))]) (hd := dL_act_304) (hn := by decide) (hok := rfl) (hls := rfl) ?_
          refine mx_iload (i := 8) (hl := rfl) (hd := dL_act_306) ?_
          refine mx_iload (i := 9) (hl := rfl) (hd := dL_act_308) ?_
          refine mx_iadd dL_act_310 ?_
          refine mx_iload (i := 10) (hl := rfl) (hd := dL_act_311) ?_
          refine mx_iadd dL_act_313 ?_
          refine mx_aload_n (i := 0) (hi := rfl) (hl := rfl) (hd := dL_act_314) ?_
          refine mx_iconstN 0 dL_act_315 (by decide) ?_
          refine mx_bipushN 46 dL_act_316 (by decide) ?_
          refine mx_iconstN 0 dL_act_318 (by decide) ?_
          refine mx_iconstN 0 dL_act_319 (by decide) ?_
          refine mx_callS (bc := 12) (bs := 122) (As := [.ref a, .int (nI 0), .int (nI 46), .int (nI 0), .int (nI 0)]) (rest := [.int ((((apZ (zc0 z) (nI (97 + (y % 4)))).1) + ((apZ (zc1 z y) (nI (cc2 y))).1)) + ((apZ (zc2 z y) (nI (cc3 y))).1))]) (b1 := 2) (b2 := 12) dL_act_320 (lc_append G13 I13 a (zc3 z y) hW13 (nI 46) (nI 0) (nI 0)) km_L_call rfl k_664 k_665 rfl rfl (Nat.le_of_ble_eq_true rfl) (by decide) (fun _ _ _ q => q.elim) (fun r27 G14 I14 h28 => ?_)
          obtain ⟨e9, hQ14⟩ := h28
          have e9 : r27 = some (.int (apZ (zc3 z y) (nI 46)).1) := e9
          have hQ14 : cP G13 I13 a (zc4 z y) G14 I14 := hQ14
          subst e9
          have hA14 := hA13.tr hQ14
          have hW14 := hQ14.1
          refine mx_iadd dL_act_323 ?_
          refine mx_aload_n (i := 0) (hi := rfl) (hl := rfl) (hd := dL_act_324) ?_
          refine mx_bipushN 12 dL_act_325 (by decide) ?_
          refine mx_iconstN 0 dL_act_327 (by decide) ?_
          refine mx_iconstN 0 dL_act_328 (by decide) ?_
          refine mx_iconstN 0 dL_act_329 (by decide) ?_
          refine mx_callS (bc := 6) (bs := 19) (As := [.ref a, .int (nI 12), .int (nI 0), .int (nI 0), .int (nI 0)]) (rest := [.int (((((apZ (zc0 z) (nI (97 + (y % 4)))).1) + ((apZ (zc1 z y) (nI (cc2 y))).1)) + ((apZ (zc2 z y) (nI (cc3 y))).1)) + ((apZ (zc3 z y) (nI 46)).1))]) (b1 := 6) (b2 := 103) dL_act_330 (lc_take G14 I14 a (zc4 z y) hW14 (nI 0) (nI 0) (nI 0)) km_L_call rfl k_664 k_665 rfl rfl (Nat.le_of_ble_eq_true rfl) (by decide) (fun _ _ _ q => q.elim) (fun r29 G15 I15 h30 => ?_)
          obtain ⟨e9, hQ15⟩ := h30
          have e9 : r29 = some (.int (tkZ (zc4 z y)).1) := e9
          have hQ15 : cP G14 I14 a (tkZ (zc4 z y)).2 G15 I15 := hQ15
          subst e9
          have hA15 := hA14.tr hQ15
          have hW15 := hQ15.1
          refine mx_iadd dL_act_333 ?_
          exact mx_iret dL_act_334 rfl rfl (⟨by rw [acv_9, ptZ_e], by rw [acv_9, ptZ_e]; exact hA15⟩)
        · skip
          refine mx_bipushN 65 dL_act_285 (by decide) ?_
          refine mx_iload_n (i := 2) (hi := rfl) (hl := rfl) (hd := dL_act_287) ?_
          refine mx_bipushN 16 dL_act_288 (by decide) ?_
          refine mx_idivN dL_act_290 (by omega) (by decide) ?_
          refine mx_iconstN 4 dL_act_291 (by decide) ?_
          refine mx_iremN dL_act_292 (by omega) (by decide) ?_
          refine mx_iaddN dL_act_293 ?_
          refine mx_top (y := nI (cc3 y)) (congrArg nI (cc3_0 c282).symm) ?_
          refine mx_goto (tgt := 299) dL_act_294 (by decide) ?_
          refine mx_iconstN 0 dL_act_299 (by decide) ?_
          refine mx_iconstN 0 dL_act_300 (by decide) ?_
          refine mx_callS (bc := 14) (bs := 134) (As := [.ref a, .int (nI 0), .int (nI (cc3 y)), .int (nI 0), .int (nI 0)]) (rest := []) (b1 := 2) (b2 := 12) dL_act_301 (lc_append G12 I12 a (zc2 z y) hW12 (nI (cc3 y)) (nI 0) (nI 0)) km_L_call rfl k_664 k_665 rfl rfl (Nat.le_of_ble_eq_true rfl) (by decide) (fun _ _ _ q => q.elim) (fun r31 G16 I16 h32 => ?_)
          obtain ⟨e9, hQ16⟩ := h32
          have e9 : r31 = some (.int (apZ (zc2 z y) (nI (cc3 y))).1) := e9
          have hQ16 : cP G12 I12 a (zc3 z y) G16 I16 := hQ16
          subst e9
          have hA16 := hA12.tr hQ16
          have hW16 := hQ16.1
          refine mx_istoreE (i := 10) (ls' := [some (.ref a), some (.int (nI x)), some (.int (nI y)), some (.int (nI (gP (zG z)))), some (.int (nI (gN (zG z)))), some (.int (nI (md (gP (zG z)) y))), some (.int (nI (md (gP (zG z)) (y / 8)))), some (.int (nI (md (gN (zG z)) (y / 16)))), some (.int ((apZ (zc0 z) (nI (97 + (y % 4)))).1)), some (.int ((apZ (zc1 z y) (nI (cc2 y))).1)), some (.int ((apZ (zc2 z y) (nI (cc3 y))).1))]) (hd := dL_act_304) (hn := by decide) (hok := rfl) (hls := rfl) ?_
          refine mx_iload (i := 8) (hl := rfl) (hd := dL_act_306) ?_
          refine mx_iload (i := 9) (hl := rfl) (hd := dL_act_308) ?_
          refine mx_iadd dL_act_310 ?_
          refine mx_iload (i := 10) (hl := rfl) (hd := dL_act_311) ?_
          refine mx_iadd dL_act_313 ?_
          refine mx_aload_n (i := 0) (hi := rfl) (hl := rfl) (hd := dL_act_314) ?_
          refine mx_iconstN 0 dL_act_315 (by decide) ?_
          refine mx_bipushN 46 dL_act_316 (by decide) ?_
          refine mx_iconstN 0 dL_act_318 (by decide) ?_
          refine mx_iconstN 0 dL_act_319 (by decide) ?_
          refine mx_callS (bc := 12) (bs := 122) (As := [.ref a, .int (nI 0), .int (nI 46), .int (nI 0), .int (nI 0)]) (rest := [.int ((((apZ (zc0 z) (nI (97 + (y % 4)))).1) + ((apZ (zc1 z y) (nI (cc2 y))).1)) + ((apZ (zc2 z y) (nI (cc3 y))).1))]) (b1 := 2) (b2 := 12) dL_act_320 (lc_append G16 I16 a (zc3 z y) hW16 (nI 46) (nI 0) (nI 0)) km_L_call rfl k_664 k_665 rfl rfl (Nat.le_of_ble_eq_true rfl) (by decide) (fun _ _ _ q => q.elim) (fun r33 G17 I17 h34 => ?_)
          obtain ⟨e9, hQ17⟩ := h34
          have e9 : r33 = some (.int (apZ (zc3 z y) (nI 46)).1) := e9
          have hQ17 : cP G16 I16 a (zc4 z y) G17 I17 := hQ17
          subst e9
          have hA17 := hA16.tr hQ17
          have hW17 := hQ17.1
          refine mx_iadd dL_act_323 ?_
          refine mx_aload_n (i := 0) (hi := rfl) (hl := rfl) (hd := dL_act_324) ?_
          refine mx_bipushN 12 dL_act_325 (by decide) ?_
          refine mx_iconstN 0 dL_act_327 (by decide) ?_
          refine mx_iconstN 0 dL_act_328 (by decide) ?_
          refine mx_iconstN 0 dL_act_329 (by decide) ?_
          refine mx_callS (bc := 6) (bs := 19) (As := [.ref a, .int (nI 12), .int (nI 0), .int (nI 0), .int (nI 0)]) (rest := [.int (((((apZ (zc0 z) (nI (97 + (y % 4)))).1) + ((apZ (zc1 z y) (nI (cc2 y))).1)) + ((apZ (zc2 z y) (nI (cc3 y))).1)) + ((apZ (zc3 z y) (nI 46)).1))]) (b1 := 6) (b2 := 103) dL_act_330 (lc_take G17 I17 a (zc4 z y) hW17 (nI 0) (nI 0) (nI 0)) km_L_call rfl k_664 k_665 rfl rfl (Nat.le_of_ble_eq_true rfl) (by decide) (fun _ _ _ q => q.elim) (fun r35 G18 I18 h36 => ?_)
          obtain ⟨e9, hQ18⟩ := h36
          have e9 : r35 = some (.int (tkZ (zc4 z y)).1) := e9
          have hQ18 : cP G17 I17 a (tkZ (zc4 z y)).2 G18 I18 := hQ18
          subst e9
          have hA18 := hA17.tr hQ18
          have hW18 := hQ18.1
          refine mx_iadd dL_act_333 ?_
          exact mx_iret dL_act_334 rfl rfl (⟨by rw [acv_9, ptZ_e], by rw [acv_9, ptZ_e]; exact hA18⟩)
      · skip
        refine mx_bipushN 42 dL_act_260 (by decide) ?_
        refine mx_top (y := nI (cc2 y)) (congrArg nI (cc2_0 c257).symm) ?_
        refine mx_goto (tgt := 267) dL_act_262 (by decide) ?_
        refine mx_iconstN 0 dL_act_267 (by decide) ?_
        refine mx_iconstN 0 dL_act_268 (by decide) ?_
        refine mx_callS (bc := 16) (bs := 146) (As := [.ref a, .int (nI 0), .int (nI (cc2 y)), .int (nI 0), .int (nI 0)]) (rest := []) (b1 := 2) (b2 := 12) dL_act_269 (lc_append G11 I11 a (zc1 z y) hW11 (nI (cc2 y)) (nI 0) (nI 0)) km_L_call rfl k_664 k_665 rfl rfl (Nat.le_of_ble_eq_true rfl) (by decide) (fun _ _ _ q => q.elim) (fun r37 G19 I19 h38 => ?_)
        obtain ⟨e9, hQ19⟩ := h38
        have e9 : r37 = some (.int (apZ (zc1 z y) (nI (cc2 y))).1) := e9
        have hQ19 : cP G11 I11 a (zc2 z y) G19 I19 := hQ19
        subst e9
        have hA19 := hA11.tr hQ19
        have hW19 := hQ19.1
        refine mx_istoreE (i := 9) (ls' := [some (.ref a), some (.int (nI x)), some (.int (nI y)), some (.int (nI (gP (zG z)))), some (.int (nI (gN (zG z)))), some (.int (nI (md (gP (zG z)) y))), some (.int (nI (md (gP (zG z)) (y / 8)))), some (.int (nI (md (gN (zG z)) (y / 16)))), some (.int ((apZ (zc0 z) (nI (97 + (y % 4)))).1)), some (.int ((apZ (zc1 z y) (nI (cc2 y))).1)), none]) (hd := dL_act_272) (hn := by decide) (hok := rfl) (hls := rfl) ?_
        refine mx_aload_n (i := 0) (hi := rfl) (hl := rfl) (hd := dL_act_274) ?_
        refine mx_iconstN 0 dL_act_275 (by decide) ?_
        refine mx_iload_n (i := 2) (hi := rfl) (hl := rfl) (hd := dL_act_276) ?_
        refine mx_bipushN 8 dL_act_277 (by decide) ?_
        refine mx_idivN dL_act_279 (by omega) (by decide) ?_
        refine mx_iconstN 2 dL_act_280 (by decide) ?_
        refine mx_iremN dL_act_281 (by omega) (by decide) ?_
        refine mx_ifN_ne 297 dL_act_282 (by decide) (by omega) (fun c282 => ?_) (fun c282 => ?_)
        · skip
          refine mx_bipushN 124 dL_act_297 (by decide) ?_
          refine mx_top (y := nI (cc3 y)) (congrArg nI (cc3_1 c282).symm) ?_
          refine mx_iconstN 0 dL_act_299 (by decide) ?_
          refine mx_iconstN 0 dL_act_300 (by decide) ?_
          refine mx_callS (bc := 14) (bs := 134) (As := [.ref a, .int (nI 0), .int (nI (cc3 y)), .int (nI 0), .int (nI 0)]) (rest := []) (b1 := 2) (b2 := 12) dL_act_301 (lc_append G19 I19 a (zc2 z y) hW19 (nI (cc3 y)) (nI 0) (nI 0)) km_L_call rfl k_664 k_665 rfl rfl (Nat.le_of_ble_eq_true rfl) (by decide) (fun _ _ _ q => q.elim) (fun r39 G20 I20 h40 => ?_)
          obtain ⟨e9, hQ20⟩ := h40
          have e9 : r39 = some (.int (apZ (zc2 z y) (nI (cc3 y))).1) := e9
          have hQ20 : cP G19 I19 a (zc3 z y) G20 I20 := hQ20
          subst e9
          have hA20 := hA19.tr hQ20
          have hW20 := hQ20.1
          refine mx_istoreE (i := 10) (ls' := [some (.ref a), some (.int (nI x)), some (.int (nI y)), some (.int (nI (gP (zG z)))), some (.int (nI (gN (zG z)))), some (.int (nI (md (gP (zG z)) y))), some (.int (nI (md (gP (zG z)) (y / 8)))), some (.int (nI (md (gN (zG z)) (y / 16)))), some (.int ((apZ (zc0 z) (nI (97 + (y % 4)))).1)), some (.int ((apZ (zc1 z y) (nI (cc2 y))).1)), some (.int ((apZ (zc2 z y) (nI (cc3 y))).1))]) (hd := dL_act_304) (hn := by decide) (hok := rfl) (hls := rfl) ?_
          refine mx_iload (i := 8) (hl := rfl) (hd := dL_act_306) ?_
          refine mx_iload (i := 9) (hl := rfl) (hd := dL_act_308) ?_
          refine mx_iadd dL_act_310 ?_
          refine mx_iload (i := 10) (hl := rfl) (hd := dL_act_311) ?_
          refine mx_iadd dL_act_313 ?_
          refine mx_aload_n (i := 0) (hi := rfl) (hl := rfl) (hd := dL_act_314) ?_
          refine mx_iconstN 0 dL_act_315 (by decide) ?_
          refine mx_bipushN 46 dL_act_316 (by decide) ?_
          refine mx_iconstN 0 dL_act_318 (by decide) ?_
          refine mx_iconstN 0 dL_act_319 (by decide) ?_
          refine mx_callS (bc := 12) (bs := 122) (As := [.ref a, .int (nI 0), .int (nI 46), .int (nI 0), .int (nI 0)]) (rest := [.int ((((apZ (zc0 z) (nI (97 + (y % 4)))).1) + ((apZ (zc1 z y) (nI (cc2 y))).1)) + ((apZ (zc2 z y) (nI (cc3 y))).1))]) (b1 := 2) (b2 := 12) dL_act_320 (lc_append G20 I20 a (zc3 z y) hW20 (nI 46) (nI 0) (nI 0)) km_L_call rfl k_664 k_665 rfl rfl (Nat.le_of_ble_eq_true rfl) (by decide) (fun _ _ _ q => q.elim) (fun r41 G21 I21 h42 => ?_)
          obtain ⟨e9, hQ21⟩ := h42
          have e9 : r41 = some (.int (apZ (zc3 z y) (nI 46)).1) := e9
          have hQ21 : cP G20 I20 a (zc4 z y) G21 I21 := hQ21
          subst e9
          have hA21 := hA20.tr hQ21
          have hW21 := hQ21.1
          refine mx_iadd dL_act_323 ?_
          refine mx_aload_n (i := 0) (hi := rfl) (hl := rfl) (hd := dL_act_324) ?_
          refine mx_bipushN 12 dL_act_325 (by decide) ?_
          refine mx_iconstN 0 dL_act_327 (by decide) ?_
          refine mx_iconstN 0 dL_act_328 (by decide) ?_
          refine mx_iconstN 0 dL_act_329 (by decide) ?_
          refine mx_callS (bc := 6) (bs := 19) (As := [.ref a, .int (nI 12), .int (nI 0), .int (nI 0), .int (nI 0)]) (rest := [.int (((((apZ (zc0 z) (nI (97 + (y % 4)))).1) + ((apZ (zc1 z y) (nI (cc2 y))).1)) + ((apZ (zc2 z y) (nI (cc3 y))).1)) + ((apZ (zc3 z y) (nI 46)).1))]) (b1 := 6) (b2 := 103) dL_act_330 (lc_take G21 I21 a (zc4 z y) hW21 (nI 0) (nI 0) (nI 0)) km_L_call rfl k_664 k_665 rfl rfl (Nat.le_of_ble_eq_true rfl) (by decide) (fun _ _ _ q => q.elim) (fun r43 G22 I22 h44 => ?_)
          obtain ⟨e9, hQ22⟩ := h44
          have e9 : r43 = some (.int (tkZ (zc4 z y)).1) := e9
          have hQ22 : cP G21 I21 a (tkZ (zc4 z y)).2 G22 I22 := hQ22
          subst e9
          have hA22 := hA21.tr hQ22
          have hW22 := hQ22.1
          refine mx_iadd dL_act_333 ?_
          exact mx_iret dL_act_334 rfl rfl (⟨by rw [acv_9, ptZ_e], by rw [acv_9, ptZ_e]; exact hA22⟩)
        · skip
          refine mx_bipushN 65 dL_act_285 (by decide) ?_
          refine mx_iload_n (i := 2) (hi := rfl) (hl := rfl) (hd := dL_act_287) ?_
          refine mx_bipushN 16 dL_act_288 (by decide) ?_
          refine mx_idivN dL_act_290 (by omega) (by decide) ?_
          refine mx_iconstN 4 dL_act_291 (by decide) ?_
          refine mx_iremN dL_act_292 (by omega) (by decide) ?_
          refine mx_iaddN dL_act_293 ?_
          refine mx_top (y := nI (cc3 y)) (congrArg nI (cc3_0 c282).symm) ?_
          refine mx_goto (tgt := 299) dL_act_294 (by decide) ?_
          refine mx_iconstN 0 dL_act_299 (by decide) ?_
          refine mx_iconstN 0 dL_act_300 (by decide) ?_
          refine mx_callS (bc := 14) (bs := 134) (As := [.ref a, .int (nI 0), .int (nI (cc3 y)), .int (nI 0), .int (nI 0)]) (rest := []) (b1 := 2) (b2 := 12) dL_act_301 (lc_append G19 I19 a (zc2 z y) hW19 (nI (cc3 y)) (nI 0) (nI 0)) km_L_call rfl k_664 k_665 rfl rfl (Nat.le_of_ble_eq_true rfl) (by decide) (fun _ _ _ q => q.elim) (fun r45 G23 I23 h46 => ?_)
          obtain ⟨e9, hQ23⟩ := h46
          have e9 : r45 = some (.int (apZ (zc2 z y) (nI (cc3 y))).1) := e9
          have hQ23 : cP G19 I19 a (zc3 z y) G23 I23 := hQ23
          subst e9
          have hA23 := hA19.tr hQ23
          have hW23 := hQ23.1
          refine mx_istoreE (i := 10) (ls' := [some (.ref a), some (.int (nI x)), some (.int (nI y)), some (.int (nI (gP (zG z)))), some (.int (nI (gN (zG z)))), some (.int (nI (md (gP (zG z)) y))), some (.int (nI (md (gP (zG z)) (y / 8)))), some (.int (nI (md (gN (zG z)) (y / 16)))), some (.int ((apZ (zc0 z) (nI (97 + (y % 4)))).1)), some (.int ((apZ (zc1 z y) (nI (cc2 y))).1)), some (.int ((apZ (zc2 z y) (nI (cc3 y))).1))]) (hd := dL_act_304) (hn := by decide) (hok := rfl) (hls := rfl) ?_
          refine mx_iload (i := 8) (hl := rfl) (hd := dL_act_306) ?_
          refine mx_iload (i := 9) (hl := rfl) (hd := dL_act_308) ?_
          refine mx_iadd dL_act_310 ?_
          refine mx_iload (i := 10) (hl := rfl) (hd := dL_act_311) ?_
          refine mx_iadd dL_act_313 ?_
          refine mx_aload_n (i := 0) (hi := rfl) (hl := rfl) (hd := dL_act_314) ?_
          refine mx_iconstN 0 dL_act_315 (by decide) ?_
          refine mx_bipushN 46 dL_act_316 (by decide) ?_
          refine mx_iconstN 0 dL_act_318 (by decide) ?_
          refine mx_iconstN 0 dL_act_319 (by decide) ?_
          refine mx_callS (bc := 12) (bs := 122) (As := [.ref a, .int (nI 0), .int (nI 46), .int (nI 0), .int (nI 0)]) (rest := [.int ((((apZ (zc0 z) (nI (97 + (y % 4)))).1) + ((apZ (zc1 z y) (nI (cc2 y))).1)) + ((apZ (zc2 z y) (nI (cc3 y))).1))]) (b1 := 2) (b2 := 12) dL_act_320 (lc_append G23 I23 a (zc3 z y) hW23 (nI 46) (nI 0) (nI 0)) km_L_call rfl k_664 k_665 rfl rfl (Nat.le_of_ble_eq_true rfl) (by decide) (fun _ _ _ q => q.elim) (fun r47 G24 I24 h48 => ?_)
          obtain ⟨e9, hQ24⟩ := h48
          have e9 : r47 = some (.int (apZ (zc3 z y) (nI 46)).1) := e9
          have hQ24 : cP G23 I23 a (zc4 z y) G24 I24 := hQ24
          subst e9
          have hA24 := hA23.tr hQ24
          have hW24 := hQ24.1
          refine mx_iadd dL_act_323 ?_
          refine mx_aload_n (i := 0) (hi := rfl) (hl := rfl) (hd := dL_act_324) ?_
          refine mx_bipushN 12 dL_act_325 (by decide) ?_
          refine mx_iconstN 0 dL_act_327 (by decide) ?_
          refine mx_iconstN 0 dL_act_328 (by decide) ?_
          refine mx_iconstN 0 dL_act_329 (by decide) ?_
          refine mx_callS (bc := 6) (bs := 19) (As := [.ref a, .int (nI 12), .int (nI 0), .int (nI 0), .int (nI 0)]) (rest := [.int (((((apZ (zc0 z) (nI (97 + (y % 4)))).1) + ((apZ (zc1 z y) (nI (cc2 y))).1)) + ((apZ (zc2 z y) (nI (cc3 y))).1)) + ((apZ (zc3 z y) (nI 46)).1))]) (b1 := 6) (b2 := 103) dL_act_330 (lc_take G24 I24 a (zc4 z y) hW24 (nI 0) (nI 0) (nI 0)) km_L_call rfl k_664 k_665 rfl rfl (Nat.le_of_ble_eq_true rfl) (by decide) (fun _ _ _ q => q.elim) (fun r49 G25 I25 h50 => ?_)
          obtain ⟨e9, hQ25⟩ := h50
          have e9 : r49 = some (.int (tkZ (zc4 z y)).1) := e9
          have hQ25 : cP G24 I24 a (tkZ (zc4 z y)).2 G25 I25 := hQ25
          subst e9
          have hA25 := hA24.tr hQ25
          have hW25 := hQ25.1
          refine mx_iadd dL_act_333 ?_
          exact mx_iret dL_act_334 rfl rfl (⟨by rw [acv_9, ptZ_e], by rw [acv_9, ptZ_e]; exact hA25⟩)
    · skip
      refine mx_tabIn (tgt := 230) dL_act_70 (by decide) (by decide) rfl (by decide) ?_
      have tg8 : mx_tg G1 a = 19 := hW.1.1.1
      refine mx_aload_n (i := 0) (hi := rfl) (hl := rfl) (hd := dL_act_230) ?_
      refine mx_callV (bc := 20) (bs := 170) (ci := 9) (As := []) (rest := []) (b1 := 0) (b2 := 0) dL_act_231 (ct_clearText G1 I1 a z hW) km_X9_clearText rfl k_1000 k_1001 k_1002 (by assumption) rfl rfl (Nat.le_of_ble_eq_true rfl) (by decide) (fun _ _ _ q => q.elim) (fun r51 G26 I26 h52 => ?_)
      obtain ⟨e9, hQ26⟩ := h52
      subst e9
      have hQ26 : cP G1 I1 a (zc0 z) G26 I26 := hQ26
      have hA26 := hA.tr hQ26
      have hW26 := hQ26.1
      refine mx_pop (hva := rfl) (hd := dL_act_234) ?_
      refine mx_aload_n (i := 0) (hi := rfl) (hl := rfl) (hd := dL_act_235) ?_
      refine mx_iconstN 0 dL_act_236 (by decide) ?_
      refine mx_bipushN 97 dL_act_237 (by decide) ?_
      refine mx_iload_n (i := 2) (hi := rfl) (hl := rfl) (hd := dL_act_239) ?_
      refine mx_iconstN 4 dL_act_240 (by decide) ?_
      refine mx_iremN dL_act_241 (by omega) (by decide) ?_
      refine mx_iaddN dL_act_242 ?_
      refine mx_iconstN 0 dL_act_243 (by decide) ?_
      refine mx_iconstN 0 dL_act_244 (by decide) ?_
      refine mx_callS (bc := 18) (bs := 158) (As := [.ref a, .int (nI 0), .int (nI (97 + (y % 4))), .int (nI 0), .int (nI 0)]) (rest := []) (b1 := 2) (b2 := 12) dL_act_245 (lc_append G26 I26 a (zc0 z) hW26 (nI (97 + (y % 4))) (nI 0) (nI 0)) km_L_call rfl k_664 k_665 rfl rfl (Nat.le_of_ble_eq_true rfl) (by decide) (fun _ _ _ q => q.elim) (fun r53 G27 I27 h54 => ?_)
      obtain ⟨e9, hQ27⟩ := h54
      have e9 : r53 = some (.int (apZ (zc0 z) (nI (97 + (y % 4)))).1) := e9
      have hQ27 : cP G26 I26 a (zc1 z y) G27 I27 := hQ27
      subst e9
      have hA27 := hA26.tr hQ27
      have hW27 := hQ27.1
      refine mx_istoreE (i := 8) (ls' := [some (.ref a), some (.int (nI x)), some (.int (nI y)), some (.int (nI (gP (zG z)))), some (.int (nI (gN (zG z)))), some (.int (nI (md (gP (zG z)) y))), some (.int (nI (md (gP (zG z)) (y / 8)))), some (.int (nI (md (gN (zG z)) (y / 16)))), some (.int ((apZ (zc0 z) (nI (97 + (y % 4)))).1)), none, none]) (hd := dL_act_248) (hn := by decide) (hok := rfl) (hls := rfl) ?_
      refine mx_aload_n (i := 0) (hi := rfl) (hl := rfl) (hd := dL_act_250) ?_
      refine mx_iconstN 0 dL_act_251 (by decide) ?_
      refine mx_iload_n (i := 2) (hi := rfl) (hl := rfl) (hd := dL_act_252) ?_
      refine mx_iconstN 4 dL_act_253 (by decide) ?_
      refine mx_idivN dL_act_254 (by omega) (by decide) ?_
      refine mx_iconstN 2 dL_act_255 (by decide) ?_
      refine mx_iremN dL_act_256 (by omega) (by decide) ?_
      refine mx_ifN_ne 265 dL_act_257 (by decide) (by omega) (fun c257 => ?_) (fun c257 => ?_)
      · skip
        refine mx_bipushN 43 dL_act_265 (by decide) ?_
        refine mx_top (y := nI (cc2 y)) (congrArg nI (cc2_1 c257).symm) ?_
        refine mx_iconstN 0 dL_act_267 (by decide) ?_
        refine mx_iconstN 0 dL_act_268 (by decide) ?_
        refine mx_callS (bc := 16) (bs := 146) (As := [.ref a, .int (nI 0), .int (nI (cc2 y)), .int (nI 0), .int (nI 0)]) (rest := []) (b1 := 2) (b2 := 12) dL_act_269 (lc_append G27 I27 a (zc1 z y) hW27 (nI (cc2 y)) (nI 0) (nI 0)) km_L_call rfl k_664 k_665 rfl rfl (Nat.le_of_ble_eq_true rfl) (by decide) (fun _ _ _ q => q.elim) (fun r55 G28 I28 h56 => ?_)
        obtain ⟨e9, hQ28⟩ := h56
        have e9 : r55 = some (.int (apZ (zc1 z y) (nI (cc2 y))).1) := e9
        have hQ28 : cP G27 I27 a (zc2 z y) G28 I28 := hQ28
        subst e9
        have hA28 := hA27.tr hQ28
        have hW28 := hQ28.1
        refine mx_istoreE (i := 9) (ls' := [some (.ref a), some (.int (nI x)), some (.int (nI y)), some (.int (nI (gP (zG z)))), some (.int (nI (gN (zG z)))), some (.int (nI (md (gP (zG z)) y))), some (.int (nI (md (gP (zG z)) (y / 8)))), some (.int (nI (md (gN (zG z)) (y / 16)))), some (.int ((apZ (zc0 z) (nI (97 + (y % 4)))).1)), some (.int ((apZ (zc1 z y) (nI (cc2 y))).1)), none]) (hd := dL_act_272) (hn := by decide) (hok := rfl) (hls := rfl) ?_
        refine mx_aload_n (i := 0) (hi := rfl) (hl := rfl) (hd := dL_act_274) ?_
        refine mx_iconstN 0 dL_act_275 (by decide) ?_
        refine mx_iload_n (i := 2) (hi := rfl) (hl := rfl) (hd := dL_act_276) ?_
        refine mx_bipushN 8 dL_act_277 (by decide) ?_
        refine mx_idivN dL_act_279 (by omega) (by decide) ?_
        refine mx_iconstN 2 dL_act_280 (by decide) ?_
        refine mx_iremN dL_act_281 (by omega) (by decide) ?_
        refine mx_ifN_ne 297 dL_act_282 (by decide) (by omega) (fun c282 => ?_) (fun c282 => ?_)
        · skip
          refine mx_bipushN 124 dL_act_297 (by decide) ?_
          refine mx_top (y := nI (cc3 y)) (congrArg nI (cc3_1 c282).symm) ?_
          refine mx_iconstN 0 dL_act_299 (by decide) ?_
          refine mx_iconstN 0 dL_act_300 (by decide) ?_
          refine mx_callS (bc := 14) (bs := 134) (As := [.ref a, .int (nI 0), .int (nI (cc3 y)), .int (nI 0), .int (nI 0)]) (rest := []) (b1 := 2) (b2 := 12) dL_act_301 (lc_append G28 I28 a (zc2 z y) hW28 (nI (cc3 y)) (nI 0) (nI 0)) km_L_call rfl k_664 k_665 rfl rfl (Nat.le_of_ble_eq_true rfl) (by decide) (fun _ _ _ q => q.elim) (fun r57 G29 I29 h58 => ?_)
          obtain ⟨e9, hQ29⟩ := h58
          have e9 : r57 = some (.int (apZ (zc2 z y) (nI (cc3 y))).1) := e9
          have hQ29 : cP G28 I28 a (zc3 z y) G29 I29 := hQ29
          subst e9
          have hA29 := hA28.tr hQ29
          have hW29 := hQ29.1
          refine mx_istoreE (i := 10) (ls' := [some (.ref a), some (.int (nI x)), some (.int (nI y)), some (.int (nI (gP (zG z)))), some (.int (nI (gN (zG z)))), some (.int (nI (md (gP (zG z)) y))), some (.int (nI (md (gP (zG z)) (y / 8)))), some (.int (nI (md (gN (zG z)) (y / 16)))), some (.int ((apZ (zc0 z) (nI (97 + (y % 4)))).1)), some (.int ((apZ (zc1 z y) (nI (cc2 y))).1)), some (.int ((apZ (zc2 z y) (nI (cc3 y))).1))]) (hd := dL_act_304) (hn := by decide) (hok := rfl) (hls := rfl) ?_
          refine mx_iload (i := 8) (hl := rfl) (hd := dL_act_306) ?_
          refine mx_iload (i := 9) (hl := rfl) (hd := dL_act_308) ?_
          refine mx_iadd dL_act_310 ?_
          refine mx_iload (i := 10) (hl := rfl) (hd := dL_act_311) ?_
          refine mx_iadd dL_act_313 ?_
          refine mx_aload_n (i := 0) (hi := rfl) (hl := rfl) (hd := dL_act_314) ?_
          refine mx_iconstN 0 dL_act_315 (by decide) ?_
          refine mx_bipushN 46 dL_act_316 (by decide) ?_
          refine mx_iconstN 0 dL_act_318 (by decide) ?_
          refine mx_iconstN 0 dL_act_319 (by decide) ?_
          refine mx_callS (bc := 12) (bs := 122) (As := [.ref a, .int (nI 0), .int (nI 46), .int (nI 0), .int (nI 0)]) (rest := [.int ((((apZ (zc0 z) (nI (97 + (y % 4)))).1) + ((apZ (zc1 z y) (nI (cc2 y))).1)) + ((apZ (zc2 z y) (nI (cc3 y))).1))]) (b1 := 2) (b2 := 12) dL_act_320 (lc_append G29 I29 a (zc3 z y) hW29 (nI 46) (nI 0) (nI 0)) km_L_call rfl k_664 k_665 rfl rfl (Nat.le_of_ble_eq_true rfl) (by decide) (fun _ _ _ q => q.elim) (fun r59 G30 I30 h60 => ?_)
          obtain ⟨e9, hQ30⟩ := h60
          have e9 : r59 = some (.int (apZ (zc3 z y) (nI 46)).1) := e9
          have hQ30 : cP G29 I29 a (zc4 z y) G30 I30 := hQ30
          subst e9
          have hA30 := hA29.tr hQ30
          have hW30 := hQ30.1
          refine mx_iadd dL_act_323 ?_
          refine mx_aload_n (i := 0) (hi := rfl) (hl := rfl) (hd := dL_act_324) ?_
          refine mx_bipushN 12 dL_act_325 (by decide) ?_
          refine mx_iconstN 0 dL_act_327 (by decide) ?_
          refine mx_iconstN 0 dL_act_328 (by decide) ?_
          refine mx_iconstN 0 dL_act_329 (by decide) ?_
          refine mx_callS (bc := 6) (bs := 19) (As := [.ref a, .int (nI 12), .int (nI 0), .int (nI 0), .int (nI 0)]) (rest := [.int (((((apZ (zc0 z) (nI (97 + (y % 4)))).1) + ((apZ (zc1 z y) (nI (cc2 y))).1)) + ((apZ (zc2 z y) (nI (cc3 y))).1)) + ((apZ (zc3 z y) (nI 46)).1))]) (b1 := 6) (b2 := 103) dL_act_330 (lc_take G30 I30 a (zc4 z y) hW30 (nI 0) (nI 0) (nI 0)) km_L_call rfl k_664 k_665 rfl rfl (Nat.le_of_ble_eq_true rfl) (by decide) (fun _ _ _ q => q.elim) (fun r61 G31 I31 h62 => ?_)
          obtain ⟨e9, hQ31⟩ := h62
          have e9 : r61 = some (.int (tkZ (zc4 z y)).1) := e9
          have hQ31 : cP G30 I30 a (tkZ (zc4 z y)).2 G31 I31 := hQ31
          subst e9
          have hA31 := hA30.tr hQ31
          have hW31 := hQ31.1
          refine mx_iadd dL_act_333 ?_
          exact mx_iret dL_act_334 rfl rfl (⟨by rw [acv_10, ptZ_e], by rw [acv_10, ptZ_e]; exact hA31⟩)
        · skip
          refine mx_bipushN 65 dL_act_285 (by decide) ?_
          refine mx_iload_n (i := 2) (hi := rfl) (hl := rfl) (hd := dL_act_287) ?_
          refine mx_bipushN 16 dL_act_288 (by decide) ?_
          refine mx_idivN dL_act_290 (by omega) (by decide) ?_
          refine mx_iconstN 4 dL_act_291 (by decide) ?_
          refine mx_iremN dL_act_292 (by omega) (by decide) ?_
          refine mx_iaddN dL_act_293 ?_
          refine mx_top (y := nI (cc3 y)) (congrArg nI (cc3_0 c282).symm) ?_
          refine mx_goto (tgt := 299) dL_act_294 (by decide) ?_
          refine mx_iconstN 0 dL_act_299 (by decide) ?_
          refine mx_iconstN 0 dL_act_300 (by decide) ?_
          refine mx_callS (bc := 14) (bs := 134) (As := [.ref a, .int (nI 0), .int (nI (cc3 y)), .int (nI 0), .int (nI 0)]) (rest := []) (b1 := 2) (b2 := 12) dL_act_301 (lc_append G28 I28 a (zc2 z y) hW28 (nI (cc3 y)) (nI 0) (nI 0)) km_L_call rfl k_664 k_665 rfl rfl (Nat.le_of_ble_eq_true rfl) (by decide) (fun _ _ _ q => q.elim) (fun r63 G32 I32 h64 => ?_)
          obtain ⟨e9, hQ32⟩ := h64
          have e9 : r63 = some (.int (apZ (zc2 z y) (nI (cc3 y))).1) := e9
          have hQ32 : cP G28 I28 a (zc3 z y) G32 I32 := hQ32
          subst e9
          have hA32 := hA28.tr hQ32
          have hW32 := hQ32.1
          refine mx_istoreE (i := 10) (ls' := [some (.ref a), some (.int (nI x)), some (.int (nI y)), some (.int (nI (gP (zG z)))), some (.int (nI (gN (zG z)))), some (.int (nI (md (gP (zG z)) y))), some (.int (nI (md (gP (zG z)) (y / 8)))), some (.int (nI (md (gN (zG z)) (y / 16)))), some (.int ((apZ (zc0 z) (nI (97 + (y % 4)))).1)), some (.int ((apZ (zc1 z y) (nI (cc2 y))).1)), some (.int ((apZ (zc2 z y) (nI (cc3 y))).1))]) (hd := dL_act_304) (hn := by decide) (hok := rfl) (hls := rfl) ?_
          refine mx_iload (i := 8) (hl := rfl) (hd := dL_act_306) ?_
          refine mx_iload (i := 9) (hl := rfl) (hd := dL_act_308) ?_
          refine mx_iadd dL_act_310 ?_
          refine mx_iload (i := 10) (hl := rfl) (hd := dL_act_311) ?_
          refine mx_iadd dL_act_313 ?_
          refine mx_aload_n (i := 0) (hi := rfl) (hl := rfl) (hd := dL_act_314) ?_
          refine mx_iconstN 0 dL_act_315 (by decide) ?_
          refine mx_bipushN 46 dL_act_316 (by decide) ?_
          refine mx_iconstN 0 dL_act_318 (by decide) ?_
          refine mx_iconstN 0 dL_act_319 (by decide) ?_
          refine mx_callS (bc := 12) (bs := 122) (As := [.ref a, .int (nI 0), .int (nI 46), .int (nI 0), .int (nI 0)]) (rest := [.int ((((apZ (zc0 z) (nI (97 + (y % 4)))).1) + ((apZ (zc1 z y) (nI (cc2 y))).1)) + ((apZ (zc2 z y) (nI (cc3 y))).1))]) (b1 := 2) (b2 := 12) dL_act_320 (lc_append G32 I32 a (zc3 z y) hW32 (nI 46) (nI 0) (nI 0)) km_L_call rfl k_664 k_665 rfl rfl (Nat.le_of_ble_eq_true rfl) (by decide) (fun _ _ _ q => q.elim) (fun r65 G33 I33 h66 => ?_)
          obtain ⟨e9, hQ33⟩ := h66
          have e9 : r65 = some (.int (apZ (zc3 z y) (nI 46)).1) := e9
          have hQ33 : cP G32 I32 a (zc4 z y) G33 I33 := hQ33
          subst e9
          have hA33 := hA32.tr hQ33
          have hW33 := hQ33.1
          refine mx_iadd dL_act_323 ?_
          refine mx_aload_n (i := 0) (hi := rfl) (hl := rfl) (hd := dL_act_324) ?_
          refine mx_bipushN 12 dL_act_325 (by decide) ?_
          refine mx_iconstN 0 dL_act_327 (by decide) ?_
          refine mx_iconstN 0 dL_act_328 (by decide) ?_
          refine mx_iconstN 0 dL_act_329 (by decide) ?_
          refine mx_callS (bc := 6) (bs := 19) (As := [.ref a, .int (nI 12), .int (nI 0), .int (nI 0), .int (nI 0)]) (rest := [.int (((((apZ (zc0 z) (nI (97 + (y % 4)))).1) + ((apZ (zc1 z y) (nI (cc2 y))).1)) + ((apZ (zc2 z y) (nI (cc3 y))).1)) + ((apZ (zc3 z y) (nI 46)).1))]) (b1 := 6) (b2 := 103) dL_act_330 (lc_take G33 I33 a (zc4 z y) hW33 (nI 0) (nI 0) (nI 0)) km_L_call rfl k_664 k_665 rfl rfl (Nat.le_of_ble_eq_true rfl) (by decide) (fun _ _ _ q => q.elim) (fun r67 G34 I34 h68 => ?_)
          obtain ⟨e9, hQ34⟩ := h68
          have e9 : r67 = some (.int (tkZ (zc4 z y)).1) := e9
          have hQ34 : cP G33 I33 a (tkZ (zc4 z y)).2 G34 I34 := hQ34
          subst e9
          have hA34 := hA33.tr hQ34
          have hW34 := hQ34.1
          refine mx_iadd dL_act_333 ?_
          exact mx_iret dL_act_334 rfl rfl (⟨by rw [acv_10, ptZ_e], by rw [acv_10, ptZ_e]; exact hA34⟩)
      · skip
        refine mx_bipushN 42 dL_act_260 (by decide) ?_
        refine mx_top (y := nI (cc2 y)) (congrArg nI (cc2_0 c257).symm) ?_
        refine mx_goto (tgt := 267) dL_act_262 (by decide) ?_
        refine mx_iconstN 0 dL_act_267 (by decide) ?_
        refine mx_iconstN 0 dL_act_268 (by decide) ?_
        refine mx_callS (bc := 16) (bs := 146) (As := [.ref a, .int (nI 0), .int (nI (cc2 y)), .int (nI 0), .int (nI 0)]) (rest := []) (b1 := 2) (b2 := 12) dL_act_269 (lc_append G27 I27 a (zc1 z y) hW27 (nI (cc2 y)) (nI 0) (nI 0)) km_L_call rfl k_664 k_665 rfl rfl (Nat.le_of_ble_eq_true rfl) (by decide) (fun _ _ _ q => q.elim) (fun r69 G35 I35 h70 => ?_)
        obtain ⟨e9, hQ35⟩ := h70
        have e9 : r69 = some (.int (apZ (zc1 z y) (nI (cc2 y))).1) := e9
        have hQ35 : cP G27 I27 a (zc2 z y) G35 I35 := hQ35
        subst e9
        have hA35 := hA27.tr hQ35
        have hW35 := hQ35.1
        refine mx_istoreE (i := 9) (ls' := [some (.ref a), some (.int (nI x)), some (.int (nI y)), some (.int (nI (gP (zG z)))), some (.int (nI (gN (zG z)))), some (.int (nI (md (gP (zG z)) y))), some (.int (nI (md (gP (zG z)) (y / 8)))), some (.int (nI (md (gN (zG z)) (y / 16)))), some (.int ((apZ (zc0 z) (nI (97 + (y % 4)))).1)), some (.int ((apZ (zc1 z y) (nI (cc2 y))).1)), none]) (hd := dL_act_272) (hn := by decide) (hok := rfl) (hls := rfl) ?_
        refine mx_aload_n (i := 0) (hi := rfl) (hl := rfl) (hd := dL_act_274) ?_
        refine mx_iconstN 0 dL_act_275 (by decide) ?_
        refine mx_iload_n (i := 2) (hi := rfl) (hl := rfl) (hd := dL_act_276) ?_
        refine mx_bipushN 8 dL_act_277 (by decide) ?_
        refine mx_idivN dL_act_279 (by omega) (by decide) ?_
        refine mx_iconstN 2 dL_act_280 (by decide) ?_
        refine mx_iremN dL_act_281 (by omega) (by decide) ?_
        refine mx_ifN_ne 297 dL_act_282 (by decide) (by omega) (fun c282 => ?_) (fun c282 => ?_)
        · skip
          refine mx_bipushN 124 dL_act_297 (by decide) ?_
          refine mx_top (y := nI (cc3 y)) (congrArg nI (cc3_1 c282).symm) ?_
          refine mx_iconstN 0 dL_act_299 (by decide) ?_
          refine mx_iconstN 0 dL_act_300 (by decide) ?_
          refine mx_callS (bc := 14) (bs := 134) (As := [.ref a, .int (nI 0), .int (nI (cc3 y)), .int (nI 0), .int (nI 0)]) (rest := []) (b1 := 2) (b2 := 12) dL_act_301 (lc_append G35 I35 a (zc2 z y) hW35 (nI (cc3 y)) (nI 0) (nI 0)) km_L_call rfl k_664 k_665 rfl rfl (Nat.le_of_ble_eq_true rfl) (by decide) (fun _ _ _ q => q.elim) (fun r71 G36 I36 h72 => ?_)
          obtain ⟨e9, hQ36⟩ := h72
          have e9 : r71 = some (.int (apZ (zc2 z y) (nI (cc3 y))).1) := e9
          have hQ36 : cP G35 I35 a (zc3 z y) G36 I36 := hQ36
          subst e9
          have hA36 := hA35.tr hQ36
          have hW36 := hQ36.1
          refine mx_istoreE (i := 10) (ls' := [some (.ref a), some (.int (nI x)), some (.int (nI y)), some (.int (nI (gP (zG z)))), some (.int (nI (gN (zG z)))), some (.int (nI (md (gP (zG z)) y))), some (.int (nI (md (gP (zG z)) (y / 8)))), some (.int (nI (md (gN (zG z)) (y / 16)))), some (.int ((apZ (zc0 z) (nI (97 + (y % 4)))).1)), some (.int ((apZ (zc1 z y) (nI (cc2 y))).1)), some (.int ((apZ (zc2 z y) (nI (cc3 y))).1))]) (hd := dL_act_304) (hn := by decide) (hok := rfl) (hls := rfl) ?_
          refine mx_iload (i := 8) (hl := rfl) (hd := dL_act_306) ?_
          refine mx_iload (i := 9) (hl := rfl) (hd := dL_act_308) ?_
          refine mx_iadd dL_act_310 ?_
          refine mx_iload (i := 10) (hl := rfl) (hd := dL_act_311) ?_
          refine mx_iadd dL_act_313 ?_
          refine mx_aload_n (i := 0) (hi := rfl) (hl := rfl) (hd := dL_act_314) ?_
          refine mx_iconstN 0 dL_act_315 (by decide) ?_
          refine mx_bipushN 46 dL_act_316 (by decide) ?_
          refine mx_iconstN 0 dL_act_318 (by decide) ?_
          refine mx_iconstN 0 dL_act_319 (by decide) ?_
          refine mx_callS (bc := 12) (bs := 122) (As := [.ref a, .int (nI 0), .int (nI 46), .int (nI 0), .int (nI 0)]) (rest := [.int ((((apZ (zc0 z) (nI (97 + (y % 4)))).1) + ((apZ (zc1 z y) (nI (cc2 y))).1)) + ((apZ (zc2 z y) (nI (cc3 y))).1))]) (b1 := 2) (b2 := 12) dL_act_320 (lc_append G36 I36 a (zc3 z y) hW36 (nI 46) (nI 0) (nI 0)) km_L_call rfl k_664 k_665 rfl rfl (Nat.le_of_ble_eq_true rfl) (by decide) (fun _ _ _ q => q.elim) (fun r73 G37 I37 h74 => ?_)
          obtain ⟨e9, hQ37⟩ := h74
          have e9 : r73 = some (.int (apZ (zc3 z y) (nI 46)).1) := e9
          have hQ37 : cP G36 I36 a (zc4 z y) G37 I37 := hQ37
          subst e9
          have hA37 := hA36.tr hQ37
          have hW37 := hQ37.1
          refine mx_iadd dL_act_323 ?_
          refine mx_aload_n (i := 0) (hi := rfl) (hl := rfl) (hd := dL_act_324) ?_
          refine mx_bipushN 12 dL_act_325 (by decide) ?_
          refine mx_iconstN 0 dL_act_327 (by decide) ?_
          refine mx_iconstN 0 dL_act_328 (by decide) ?_
          refine mx_iconstN 0 dL_act_329 (by decide) ?_
          refine mx_callS (bc := 6) (bs := 19) (As := [.ref a, .int (nI 12), .int (nI 0), .int (nI 0), .int (nI 0)]) (rest := [.int (((((apZ (zc0 z) (nI (97 + (y % 4)))).1) + ((apZ (zc1 z y) (nI (cc2 y))).1)) + ((apZ (zc2 z y) (nI (cc3 y))).1)) + ((apZ (zc3 z y) (nI 46)).1))]) (b1 := 6) (b2 := 103) dL_act_330 (lc_take G37 I37 a (zc4 z y) hW37 (nI 0) (nI 0) (nI 0)) km_L_call rfl k_664 k_665 rfl rfl (Nat.le_of_ble_eq_true rfl) (by decide) (fun _ _ _ q => q.elim) (fun r75 G38 I38 h76 => ?_)
          obtain ⟨e9, hQ38⟩ := h76
          have e9 : r75 = some (.int (tkZ (zc4 z y)).1) := e9
          have hQ38 : cP G37 I37 a (tkZ (zc4 z y)).2 G38 I38 := hQ38
          subst e9
          have hA38 := hA37.tr hQ38
          have hW38 := hQ38.1
          refine mx_iadd dL_act_333 ?_
          exact mx_iret dL_act_334 rfl rfl (⟨by rw [acv_10, ptZ_e], by rw [acv_10, ptZ_e]; exact hA38⟩)
        · skip
          refine mx_bipushN 65 dL_act_285 (by decide) ?_
          refine mx_iload_n (i := 2) (hi := rfl) (hl := rfl) (hd := dL_act_287) ?_
          refine mx_bipushN 16 dL_act_288 (by decide) ?_
          refine mx_idivN dL_act_290 (by omega) (by decide) ?_
          refine mx_iconstN 4 dL_act_291 (by decide) ?_
          refine mx_iremN dL_act_292 (by omega) (by decide) ?_
          refine mx_iaddN dL_act_293 ?_
          refine mx_top (y := nI (cc3 y)) (congrArg nI (cc3_0 c282).symm) ?_
          refine mx_goto (tgt := 299) dL_act_294 (by decide) ?_
          refine mx_iconstN 0 dL_act_299 (by decide) ?_
          refine mx_iconstN 0 dL_act_300 (by decide) ?_
          refine mx_callS (bc := 14) (bs := 134) (As := [.ref a, .int (nI 0), .int (nI (cc3 y)), .int (nI 0), .int (nI 0)]) (rest := []) (b1 := 2) (b2 := 12) dL_act_301 (lc_append G35 I35 a (zc2 z y) hW35 (nI (cc3 y)) (nI 0) (nI 0)) km_L_call rfl k_664 k_665 rfl rfl (Nat.le_of_ble_eq_true rfl) (by decide) (fun _ _ _ q => q.elim) (fun r77 G39 I39 h78 => ?_)
          obtain ⟨e9, hQ39⟩ := h78
          have e9 : r77 = some (.int (apZ (zc2 z y) (nI (cc3 y))).1) := e9
          have hQ39 : cP G35 I35 a (zc3 z y) G39 I39 := hQ39
          subst e9
          have hA39 := hA35.tr hQ39
          have hW39 := hQ39.1
          refine mx_istoreE (i := 10) (ls' := [some (.ref a), some (.int (nI x)), some (.int (nI y)), some (.int (nI (gP (zG z)))), some (.int (nI (gN (zG z)))), some (.int (nI (md (gP (zG z)) y))), some (.int (nI (md (gP (zG z)) (y / 8)))), some (.int (nI (md (gN (zG z)) (y / 16)))), some (.int ((apZ (zc0 z) (nI (97 + (y % 4)))).1)), some (.int ((apZ (zc1 z y) (nI (cc2 y))).1)), some (.int ((apZ (zc2 z y) (nI (cc3 y))).1))]) (hd := dL_act_304) (hn := by decide) (hok := rfl) (hls := rfl) ?_
          refine mx_iload (i := 8) (hl := rfl) (hd := dL_act_306) ?_
          refine mx_iload (i := 9) (hl := rfl) (hd := dL_act_308) ?_
          refine mx_iadd dL_act_310 ?_
          refine mx_iload (i := 10) (hl := rfl) (hd := dL_act_311) ?_
          refine mx_iadd dL_act_313 ?_
          refine mx_aload_n (i := 0) (hi := rfl) (hl := rfl) (hd := dL_act_314) ?_
          refine mx_iconstN 0 dL_act_315 (by decide) ?_
          refine mx_bipushN 46 dL_act_316 (by decide) ?_
          refine mx_iconstN 0 dL_act_318 (by decide) ?_
          refine mx_iconstN 0 dL_act_319 (by decide) ?_
          refine mx_callS (bc := 12) (bs := 122) (As := [.ref a, .int (nI 0), .int (nI 46), .int (nI 0), .int (nI 0)]) (rest := [.int ((((apZ (zc0 z) (nI (97 + (y % 4)))).1) + ((apZ (zc1 z y) (nI (cc2 y))).1)) + ((apZ (zc2 z y) (nI (cc3 y))).1))]) (b1 := 2) (b2 := 12) dL_act_320 (lc_append G39 I39 a (zc3 z y) hW39 (nI 46) (nI 0) (nI 0)) km_L_call rfl k_664 k_665 rfl rfl (Nat.le_of_ble_eq_true rfl) (by decide) (fun _ _ _ q => q.elim) (fun r79 G40 I40 h80 => ?_)
          obtain ⟨e9, hQ40⟩ := h80
          have e9 : r79 = some (.int (apZ (zc3 z y) (nI 46)).1) := e9
          have hQ40 : cP G39 I39 a (zc4 z y) G40 I40 := hQ40
          subst e9
          have hA40 := hA39.tr hQ40
          have hW40 := hQ40.1
          refine mx_iadd dL_act_323 ?_
          refine mx_aload_n (i := 0) (hi := rfl) (hl := rfl) (hd := dL_act_324) ?_
          refine mx_bipushN 12 dL_act_325 (by decide) ?_
          refine mx_iconstN 0 dL_act_327 (by decide) ?_
          refine mx_iconstN 0 dL_act_328 (by decide) ?_
          refine mx_iconstN 0 dL_act_329 (by decide) ?_
          refine mx_callS (bc := 6) (bs := 19) (As := [.ref a, .int (nI 12), .int (nI 0), .int (nI 0), .int (nI 0)]) (rest := [.int (((((apZ (zc0 z) (nI (97 + (y % 4)))).1) + ((apZ (zc1 z y) (nI (cc2 y))).1)) + ((apZ (zc2 z y) (nI (cc3 y))).1)) + ((apZ (zc3 z y) (nI 46)).1))]) (b1 := 6) (b2 := 103) dL_act_330 (lc_take G40 I40 a (zc4 z y) hW40 (nI 0) (nI 0) (nI 0)) km_L_call rfl k_664 k_665 rfl rfl (Nat.le_of_ble_eq_true rfl) (by decide) (fun _ _ _ q => q.elim) (fun r81 G41 I41 h82 => ?_)
          obtain ⟨e9, hQ41⟩ := h82
          have e9 : r81 = some (.int (tkZ (zc4 z y)).1) := e9
          have hQ41 : cP G40 I40 a (tkZ (zc4 z y)).2 G41 I41 := hQ41
          subst e9
          have hA41 := hA40.tr hQ41
          have hW41 := hQ41.1
          refine mx_iadd dL_act_333 ?_
          exact mx_iret dL_act_334 rfl rfl (⟨by rw [acv_10, ptZ_e], by rw [acv_10, ptZ_e]; exact hA41⟩)
    · skip
      refine mx_tabOut (tgt := 335) dL_act_70 (by decide) (by decide) ?_
      refine mx_aload_n (i := 0) (hi := rfl) (hl := rfl) (hd := dL_act_335) ?_
      refine mx_iload (i := 5) (hl := rfl) (hd := dL_act_336) ?_
      refine mx_iload_n (i := 2) (hi := rfl) (hl := rfl) (hd := dL_act_338) ?_
      refine mx_bipushN 64 dL_act_339 (by decide) ?_
      refine mx_idivN dL_act_341 (by omega) (by decide) ?_
      refine mx_iconstN 4 dL_act_342 (by decide) ?_
      refine mx_iremN dL_act_343 (by omega) (by decide) ?_
      refine mx_iload (i := 6) (hl := rfl) (hd := dL_act_344) ?_
      refine mx_iconstN 1 dL_act_346 (by decide) ?_
      refine mx_iload_n (i := 2) (hi := rfl) (hl := rfl) (hd := dL_act_347) ?_
      refine mx_sipushN 256 dL_act_348 (by decide) ?_
      refine mx_idivN dL_act_351 (by omega) (by decide) ?_
      refine mx_bipushN 9 dL_act_352 (by decide) ?_
      refine mx_iremN dL_act_354 (by omega) (by decide) ?_
      refine mx_iaddN dL_act_355 ?_
      refine mx_callSW (bc := 19) (bs := 164) (As := [.ref a, .int (nI (md (gP (zG z)) y)), .int (nI ((y / 64) % 4)), .int (nI (md (gP (zG z)) (y / 8))), .int (nI (1 + ((y / 256) % 9)))]) (rest := []) (b1 := 1) (b2 := 6) dL_act_356 (lw_addStep G1 I1 a z hW (nI (md (gP (zG z)) y)) (nI ((y / 64) % 4)) (nI (md (gP (zG z)) (y / 8))) (nI (1 + ((y / 256) % 9)))) km_L_tryBuild rfl k_969 k_970 rfl rfl (Nat.le_of_ble_eq_true rfl) (by decide) (fun _ _ _ q => q.elim) (fun r83 G42 I42 h84 => ?_)
      obtain ⟨e9, hQ42⟩ := h84
      subst e9
      have hA42 := hA.tr hQ42
      have hW42 := hQ42.1
      exact mx_iret dL_act_359 rfl rfl (⟨by rw [acv_11], by rw [acv_11]; exact hA42⟩)
    · skip
      refine mx_tabOut (tgt := 335) dL_act_70 (by decide) (by decide) ?_
      refine mx_aload_n (i := 0) (hi := rfl) (hl := rfl) (hd := dL_act_335) ?_
      refine mx_iload (i := 5) (hl := rfl) (hd := dL_act_336) ?_
      refine mx_iload_n (i := 2) (hi := rfl) (hl := rfl) (hd := dL_act_338) ?_
      refine mx_bipushN 64 dL_act_339 (by decide) ?_
      refine mx_idivN dL_act_341 (by omega) (by decide) ?_
      refine mx_iconstN 4 dL_act_342 (by decide) ?_
      refine mx_iremN dL_act_343 (by omega) (by decide) ?_
      refine mx_iload (i := 6) (hl := rfl) (hd := dL_act_344) ?_
      refine mx_iconstN 1 dL_act_346 (by decide) ?_
      refine mx_iload_n (i := 2) (hi := rfl) (hl := rfl) (hd := dL_act_347) ?_
      refine mx_sipushN 256 dL_act_348 (by decide) ?_
      refine mx_idivN dL_act_351 (by omega) (by decide) ?_
      refine mx_bipushN 9 dL_act_352 (by decide) ?_
      refine mx_iremN dL_act_354 (by omega) (by decide) ?_
      refine mx_iaddN dL_act_355 ?_
      refine mx_callSW (bc := 19) (bs := 164) (As := [.ref a, .int (nI (md (gP (zG z)) y)), .int (nI ((y / 64) % 4)), .int (nI (md (gP (zG z)) (y / 8))), .int (nI (1 + ((y / 256) % 9)))]) (rest := []) (b1 := 1) (b2 := 6) dL_act_356 (lw_addStep G1 I1 a z hW (nI (md (gP (zG z)) y)) (nI ((y / 64) % 4)) (nI (md (gP (zG z)) (y / 8))) (nI (1 + ((y / 256) % 9)))) km_L_tryBuild rfl k_969 k_970 rfl rfl (Nat.le_of_ble_eq_true rfl) (by decide) (fun _ _ _ q => q.elim) (fun r85 G43 I43 h86 => ?_)
      obtain ⟨e9, hQ43⟩ := h86
      subst e9
      have hA43 := hA.tr hQ43
      have hW43 := hQ43.1
      exact mx_iret dL_act_359 rfl rfl (⟨by rw [acv_12], by rw [acv_12]; exact hA43⟩)
    · skip
      refine mx_tabOut (tgt := 335) dL_act_70 (by decide) (by decide) ?_
      refine mx_aload_n (i := 0) (hi := rfl) (hl := rfl) (hd := dL_act_335) ?_
      refine mx_iload (i := 5) (hl := rfl) (hd := dL_act_336) ?_
      refine mx_iload_n (i := 2) (hi := rfl) (hl := rfl) (hd := dL_act_338) ?_
      refine mx_bipushN 64 dL_act_339 (by decide) ?_
      refine mx_idivN dL_act_341 (by omega) (by decide) ?_
      refine mx_iconstN 4 dL_act_342 (by decide) ?_
      refine mx_iremN dL_act_343 (by omega) (by decide) ?_
      refine mx_iload (i := 6) (hl := rfl) (hd := dL_act_344) ?_
      refine mx_iconstN 1 dL_act_346 (by decide) ?_
      refine mx_iload_n (i := 2) (hi := rfl) (hl := rfl) (hd := dL_act_347) ?_
      refine mx_sipushN 256 dL_act_348 (by decide) ?_
      refine mx_idivN dL_act_351 (by omega) (by decide) ?_
      refine mx_bipushN 9 dL_act_352 (by decide) ?_
      refine mx_iremN dL_act_354 (by omega) (by decide) ?_
      refine mx_iaddN dL_act_355 ?_
      refine mx_callSW (bc := 19) (bs := 164) (As := [.ref a, .int (nI (md (gP (zG z)) y)), .int (nI ((y / 64) % 4)), .int (nI (md (gP (zG z)) (y / 8))), .int (nI (1 + ((y / 256) % 9)))]) (rest := []) (b1 := 1) (b2 := 6) dL_act_356 (lw_addStep G1 I1 a z hW (nI (md (gP (zG z)) y)) (nI ((y / 64) % 4)) (nI (md (gP (zG z)) (y / 8))) (nI (1 + ((y / 256) % 9)))) km_L_tryBuild rfl k_969 k_970 rfl rfl (Nat.le_of_ble_eq_true rfl) (by decide) (fun _ _ _ q => q.elim) (fun r87 G44 I44 h88 => ?_)
      obtain ⟨e9, hQ44⟩ := h88
      subst e9
      have hA44 := hA.tr hQ44
      have hW44 := hQ44.1
      exact mx_iret dL_act_359 rfl rfl (⟨by rw [acv_13], by rw [acv_13]; exact hA44⟩)
    · skip
      refine mx_tabOut (tgt := 335) dL_act_70 (by decide) (by decide) ?_
      refine mx_aload_n (i := 0) (hi := rfl) (hl := rfl) (hd := dL_act_335) ?_
      refine mx_iload (i := 5) (hl := rfl) (hd := dL_act_336) ?_
      refine mx_iload_n (i := 2) (hi := rfl) (hl := rfl) (hd := dL_act_338) ?_
      refine mx_bipushN 64 dL_act_339 (by decide) ?_
      refine mx_idivN dL_act_341 (by omega) (by decide) ?_
      refine mx_iconstN 4 dL_act_342 (by decide) ?_
      refine mx_iremN dL_act_343 (by omega) (by decide) ?_
      refine mx_iload (i := 6) (hl := rfl) (hd := dL_act_344) ?_
      refine mx_iconstN 1 dL_act_346 (by decide) ?_
      refine mx_iload_n (i := 2) (hi := rfl) (hl := rfl) (hd := dL_act_347) ?_
      refine mx_sipushN 256 dL_act_348 (by decide) ?_
      refine mx_idivN dL_act_351 (by omega) (by decide) ?_
      refine mx_bipushN 9 dL_act_352 (by decide) ?_
      refine mx_iremN dL_act_354 (by omega) (by decide) ?_
      refine mx_iaddN dL_act_355 ?_
      refine mx_callSW (bc := 19) (bs := 164) (As := [.ref a, .int (nI (md (gP (zG z)) y)), .int (nI ((y / 64) % 4)), .int (nI (md (gP (zG z)) (y / 8))), .int (nI (1 + ((y / 256) % 9)))]) (rest := []) (b1 := 1) (b2 := 6) dL_act_356 (lw_addStep G1 I1 a z hW (nI (md (gP (zG z)) y)) (nI ((y / 64) % 4)) (nI (md (gP (zG z)) (y / 8))) (nI (1 + ((y / 256) % 9)))) km_L_tryBuild rfl k_969 k_970 rfl rfl (Nat.le_of_ble_eq_true rfl) (by decide) (fun _ _ _ q => q.elim) (fun r89 G45 I45 h90 => ?_)
      obtain ⟨e9, hQ45⟩ := h90
      subst e9
      have hA45 := hA.tr hQ45
      have hW45 := hQ45.1
      exact mx_iret dL_act_359 rfl rfl (⟨by rw [acv_14], by rw [acv_14]; exact hA45⟩)
    · skip
      refine mx_tabOut (tgt := 335) dL_act_70 (by decide) (by decide) ?_
      refine mx_aload_n (i := 0) (hi := rfl) (hl := rfl) (hd := dL_act_335) ?_
      refine mx_iload (i := 5) (hl := rfl) (hd := dL_act_336) ?_
      refine mx_iload_n (i := 2) (hi := rfl) (hl := rfl) (hd := dL_act_338) ?_
      refine mx_bipushN 64 dL_act_339 (by decide) ?_
      refine mx_idivN dL_act_341 (by omega) (by decide) ?_
      refine mx_iconstN 4 dL_act_342 (by decide) ?_
      refine mx_iremN dL_act_343 (by omega) (by decide) ?_
      refine mx_iload (i := 6) (hl := rfl) (hd := dL_act_344) ?_
      refine mx_iconstN 1 dL_act_346 (by decide) ?_
      refine mx_iload_n (i := 2) (hi := rfl) (hl := rfl) (hd := dL_act_347) ?_
      refine mx_sipushN 256 dL_act_348 (by decide) ?_
      refine mx_idivN dL_act_351 (by omega) (by decide) ?_
      refine mx_bipushN 9 dL_act_352 (by decide) ?_
      refine mx_iremN dL_act_354 (by omega) (by decide) ?_
      refine mx_iaddN dL_act_355 ?_
      refine mx_callSW (bc := 19) (bs := 164) (As := [.ref a, .int (nI (md (gP (zG z)) y)), .int (nI ((y / 64) % 4)), .int (nI (md (gP (zG z)) (y / 8))), .int (nI (1 + ((y / 256) % 9)))]) (rest := []) (b1 := 1) (b2 := 6) dL_act_356 (lw_addStep G1 I1 a z hW (nI (md (gP (zG z)) y)) (nI ((y / 64) % 4)) (nI (md (gP (zG z)) (y / 8))) (nI (1 + ((y / 256) % 9)))) km_L_tryBuild rfl k_969 k_970 rfl rfl (Nat.le_of_ble_eq_true rfl) (by decide) (fun _ _ _ q => q.elim) (fun r91 G46 I46 h92 => ?_)
      obtain ⟨e9, hQ46⟩ := h92
      subst e9
      have hA46 := hA.tr hQ46
      have hW46 := hQ46.1
      exact mx_iret dL_act_359 rfl rfl (⟨by rw [acv_15], by rw [acv_15]; exact hA46⟩)
  have J46 : ∀ (G1 : mx_G) (I1 : mx_I), (cP G I a z G1 I1) → mx_V mL_act mx_S0 11 20 170 46 [some (.ref a), some (.int (nI x)), some (.int (nI y)), some (.int (nI (gP (zG z)))), some (.int (nI (gN (zG z)))), some (.int (nI (md (gP (zG z)) y))), none, none, none, none, none] [.int (nI (md (gP (zG z)) (y / 8)))] G1 I1 (fun rv Gz Iz => rv = some (.int (acF z (x % 16) y).1) ∧ cP G I a (acF z (x % 16) y).2 Gz Iz) (fun _ _ _ => False) := by
    intro G1 I1 hA
    have hW := hA.1
    refine mx_istoreE (i := 6) (ls' := [some (.ref a), some (.int (nI x)), some (.int (nI y)), some (.int (nI (gP (zG z)))), some (.int (nI (gN (zG z)))), some (.int (nI (md (gP (zG z)) y))), some (.int (nI (md (gP (zG z)) (y / 8)))), none, none, none, none]) (hd := dL_act_46) (hn := by decide) (hok := rfl) (hls := rfl) ?_
    refine mx_iload (i := 4) (hl := rfl) (hd := dL_act_48) ?_
    refine mx_ifN_ne 57 dL_act_50 (by decide) (by omega) (fun c50 => ?_) (fun c50 => ?_)
    · skip
      refine mx_iload_n (i := 2) (hi := rfl) (hl := rfl) (hd := dL_act_57) ?_
      refine mx_bipushN 16 dL_act_58 (by decide) ?_
      refine mx_idivN dL_act_60 (by omega) (by decide) ?_
      refine mx_iload (i := 4) (hl := rfl) (hd := dL_act_61) ?_
      refine mx_iremN dL_act_63 (by omega) (by omega) ?_
      refine mx_top (y := nI (md (gN (zG z)) (y / 16))) (congrArg nI (md_n c50).symm) ?_
      exact J64 _ _ hA
    · skip
      refine mx_iconstN 0 dL_act_53 (by decide) ?_
      refine mx_top (y := nI (md (gN (zG z)) (y / 16))) (congrArg nI (md_0 c50).symm) ?_
      refine mx_goto (tgt := 64) dL_act_54 (by decide) ?_
      exact J64 _ _ hA
  have J30 : ∀ (G1 : mx_G) (I1 : mx_I), (cP G I a z G1 I1) → mx_V mL_act mx_S0 11 20 170 30 [some (.ref a), some (.int (nI x)), some (.int (nI y)), some (.int (nI (gP (zG z)))), some (.int (nI (gN (zG z)))), none, none, none, none, none, none] [.int (nI (md (gP (zG z)) y))] G1 I1 (fun rv Gz Iz => rv = some (.int (acF z (x % 16) y).1) ∧ cP G I a (acF z (x % 16) y).2 Gz Iz) (fun _ _ _ => False) := by
    intro G1 I1 hA
    have hW := hA.1
    refine mx_istoreE (i := 5) (ls' := [some (.ref a), some (.int (nI x)), some (.int (nI y)), some (.int (nI (gP (zG z)))), some (.int (nI (gN (zG z)))), some (.int (nI (md (gP (zG z)) y))), none, none, none, none, none]) (hd := dL_act_30) (hn := by decide) (hok := rfl) (hls := rfl) ?_
    refine mx_iload_n (i := 3) (hi := rfl) (hl := rfl) (hd := dL_act_32) ?_
    refine mx_ifN_ne 40 dL_act_33 (by decide) (by omega) (fun c33 => ?_) (fun c33 => ?_)
    · skip
      refine mx_iload_n (i := 2) (hi := rfl) (hl := rfl) (hd := dL_act_40) ?_
      refine mx_bipushN 8 dL_act_41 (by decide) ?_
      refine mx_idivN dL_act_43 (by omega) (by decide) ?_
      refine mx_iload_n (i := 3) (hi := rfl) (hl := rfl) (hd := dL_act_44) ?_
      refine mx_iremN dL_act_45 (by omega) (by omega) ?_
      refine mx_top (y := nI (md (gP (zG z)) (y / 8))) (congrArg nI (md_n c33).symm) ?_
      exact J46 _ _ hA
    · skip
      refine mx_iconstN 0 dL_act_36 (by decide) ?_
      refine mx_top (y := nI (md (gP (zG z)) (y / 8))) (congrArg nI (md_0 c33).symm) ?_
      refine mx_goto (tgt := 46) dL_act_37 (by decide) ?_
      exact J46 _ _ hA
  refine mx_aload_n (i := 0) (hi := rfl) (hl := rfl) (hd := dL_act_0) ?_
  refine mx_iconstN 2 dL_act_1 (by decide) ?_
  refine mx_iconstN 0 dL_act_2 (by decide) ?_
  refine mx_iconstN 0 dL_act_3 (by decide) ?_
  refine mx_iconstN 0 dL_act_4 (by decide) ?_
  refine mx_callS (bc := 21) (bs := 176) (As := [.ref a, .int (nI 2), .int (nI 0), .int (nI 0), .int (nI 0)]) (rest := []) (b1 := 1) (b2 := 6) dL_act_5 (lc_about G I a z hW0 (nI 0) (nI 0) (nI 0)) km_L_call rfl k_664 k_665 rfl rfl (Nat.le_of_ble_eq_true rfl) (by decide) (fun _ _ _ q => q.elim) (fun r93 G47 I47 h94 => ?_)
  obtain ⟨e9, hQ47⟩ := h94
  rw [tv_0 (by decide : fl_about (nI 0) = 0)] at e9
  rw [show an_about z (nI 0).toInt.toNat = nI (gP (zG z)) from rfl] at e9
  subst e9
  have hA47 := hQ47
  have hW47 := hQ47.1
  refine mx_istoreE_n (i := 3) (ls' := [some (.ref a), some (.int (nI x)), some (.int (nI y)), some (.int (nI (gP (zG z)))), none, none, none, none, none, none, none]) (hi := rfl) (hd := dL_act_8) (hn := by decide) (hok := rfl) (hls := rfl) ?_
  refine mx_aload_n (i := 0) (hi := rfl) (hl := rfl) (hd := dL_act_9) ?_
  refine mx_iconstN 2 dL_act_10 (by decide) ?_
  refine mx_iconstN 1 dL_act_11 (by decide) ?_
  refine mx_iconstN 0 dL_act_12 (by decide) ?_
  refine mx_iconstN 0 dL_act_13 (by decide) ?_
  refine mx_callS (bc := 20) (bs := 170) (As := [.ref a, .int (nI 2), .int (nI 1), .int (nI 0), .int (nI 0)]) (rest := []) (b1 := 1) (b2 := 6) dL_act_14 (lc_about G47 I47 a z hW47 (nI 1) (nI 0) (nI 0)) km_L_call rfl k_664 k_665 rfl rfl (Nat.le_of_ble_eq_true rfl) (by decide) (fun _ _ _ q => q.elim) (fun r95 G48 I48 h96 => ?_)
  obtain ⟨e9, hQ48⟩ := h96
  rw [tv_0 (by decide : fl_about (nI 1) = 0)] at e9
  rw [show an_about z (nI 1).toInt.toNat = nI (gN (zG z)) from rfl] at e9
  subst e9
  have hA48 := hA47.tr hQ48
  have hW48 := hQ48.1
  refine mx_istoreE (i := 4) (ls' := [some (.ref a), some (.int (nI x)), some (.int (nI y)), some (.int (nI (gP (zG z)))), some (.int (nI (gN (zG z)))), none, none, none, none, none, none]) (hd := dL_act_17) (hn := by decide) (hok := rfl) (hls := rfl) ?_
  refine mx_iload_n (i := 3) (hi := rfl) (hl := rfl) (hd := dL_act_19) ?_
  refine mx_ifN_ne 27 dL_act_20 (by decide) (by omega) (fun c20 => ?_) (fun c20 => ?_)
  · skip
    refine mx_iload_n (i := 2) (hi := rfl) (hl := rfl) (hd := dL_act_27) ?_
    refine mx_iload_n (i := 3) (hi := rfl) (hl := rfl) (hd := dL_act_28) ?_
    refine mx_iremN dL_act_29 (by omega) (by omega) ?_
    refine mx_top (y := nI (md (gP (zG z)) y)) (congrArg nI (md_n c20).symm) ?_
    exact J30 _ _ hA48
  · skip
    refine mx_iconstN 0 dL_act_23 (by decide) ?_
    refine mx_top (y := nI (md (gP (zG z)) y)) (congrArg nI (md_0 c20).symm) ?_
    refine mx_goto (tgt := 30) dL_act_24 (by decide) ?_
    exact J30 _ _ hA48
