/-! THE CONSTRUCTOR OF StepPaths -/
def oSP (G : mx_G) (a : Nat) : Prop := mx_tg G a = 19 ∧ (mx_rf G a 0 = a + 1 ∧ oTX G (a + 1)) ∧ (mx_rf G a 1 = a + 3 ∧ oPT G (a + 3)) ∧ (mx_rf G a 2 = a + 8 ∧ oRD G (a + 8)) ∧ (mx_rf G a 3 = a + 37 ∧ oST G (a + 37)) ∧ (mx_rf G a 4 = a + 42 ∧ oST G (a + 42)) ∧ (mx_rf G a 5 = a + 47 ∧ oHI G (a + 47)) ∧ (mx_rf G a 6 = a + 119 ∧ mx_tg G (a + 119) = 5 ∧ mx_ln G (a + 119) = 2 ∧ (mx_rf G (a + 119) 0 = a + 120 ∧ oST G (a + 120)) ∧ (mx_rf G (a + 119) 1 = a + 125 ∧ oST G (a + 125))) ∧ (mx_rf G a 7 = a + 130 ∧ mx_tg G (a + 130) = 3 ∧ mx_ln G (a + 130) = 2) ∧ (mx_rf G a 8 = a + 131 ∧ oSE G (a + 131)) ∧ (mx_rf G a 9 = a + 136 ∧ oSE G (a + 136)) ∧ (mx_rf G a 10 = a + 141 ∧ oBP G (a + 141))
/-- the patterns of all states at first, and of the reader -/
def oSP0 (G : mx_G) (a : Nat) : Prop := mx_rf G (a + 37) 6 = a + 3 ∧ mx_rf G (a + 42) 6 = a + 3 ∧ (∀ j, j < 14 → mx_rf G (a + 49 + 5 * j) 6 = a + 3) ∧ mx_rf G (a + 120) 6 = a + 3 ∧ mx_rf G (a + 125) 6 = a + 3 ∧ mx_rf G (a + 11 + 0) 3 = mx_rf G (a + 11 + 0) 3 ∧ mx_rf G (a + 8) 3 = a + 12 ∧ oPT G (a + 12)

theorem nh1 {a : Nat} (j lo : Nat) (h : lo = 0 ∨ lo ≤ a + 49) : lo ≤ a + 49 + 5 * j := by omega
theorem nh2 {a : Nat} (j hi : Nat) (hj : j < 14) (h : 119 ≤ hi) : a + 49 + 5 * j < a + hi := by omega
set_option maxHeartbeats 4000000 in
set_option maxRecDepth 100000 in
theorem ct_newPaths (G : mx_G) (I : mx_I) (a : Nat) (ht : mx_tg G a = 19) (hz : mx_sz G = a + 1) : mx_CT yX9_init mX9_init 4 145 2810 [.ref a] G I (fun rv Gz Iz => rv = none ∧ Iz = mx_u (mx_u I (a + 3) 6 (nI 1)) (a + 12) 6 (nI 1) ∧ mx_sz Gz = a + 146 ∧ mx_cr G Gz 0 a ∧ oSP Gz a ∧ oSP0 Gz a) (fun _ _ _ => False) := by
  refine mx_start (k := 1) (by decide) rfl rfl (fun _ => rfl) (Nat.le_of_ble_eq_true rfl) ?_
  show mx_V mX9_init mx_S0 4 145 2810 0 [some (.ref a), none] [] G I (fun rv Gz Iz => rv = none ∧ Iz = mx_u (mx_u I (a + 3) 6 (nI 1)) (a + 12) 6 (nI 1) ∧ mx_sz Gz = a + 146 ∧ mx_cr G Gz 0 a ∧ oSP Gz a ∧ oSP0 Gz a) (fun _ _ _ => False)
  have gthis : mx_tg G a = 19 := ht
  have zz : mx_sz G = a + 1 := hz
  have c0 : mx_cr G G 0 a := mx_cr.rf G 0 a
  refine mx_aload_n (i := 0) (hi := rfl) (hl := rfl) (hd := dX9_init_0) ?_
  refine mx_objInit (hd := dX9_init_1) k_53 k_oi k_oc (by decide) (by decide) ?_
  refine mx_aload_n (i := 0) (hi := rfl) (hl := rfl) (hd := dX9_init_4) ?_
  refine mx_newE (bc := 144) (bs := 2808) (ci := 7) (a := (a + 1)) (by first | rfl | omega) (by first | rfl | (show _ = _ + 2; omega)) dX9_init_5 k_56 nw_X7 (by decide) (zz) ?_
  have cn : mx_cr (G) (mx_nw (G) (7 + 10) 0) 0 (a + 1) := (mx_cr.rf _ 0 (a + 1)).nw _ _ (Nat.le_of_eq zz.symm)
  refine mx_dup (hva := rfl) (hd := dX9_init_8) ?_
  refine mx_callIN (bc := 143) (bs := 2698) (As := []) (rest := [.ref (a + 1), .ref a]) (b1 := 1) (b2 := 110) dX9_init_9 (ct_newText (mx_nw (G) (7 + 10) 0) _ (a + 1) (by rw [mx_tg_nw, if_pos zz.symm]) (by rw [mx_sz_nw, zz])) km_X7_init rfl rfl rfl k_58 k_59 rfl rfl (Nat.le_of_ble_eq_true rfl) (by decide) (fun _ _ _ q => q.elim) (fun r1 K1 Ik1 h2 => ?_)
  obtain ⟨e1, e2, zz, c2, oTx⟩ := h2
  subst e1
  subst e2
  have cm : mx_cr (G) K1 0 (a + 1) := cn.tr c2
  have gthis := cm.tg gthis (Nat.zero_le _) (Nat.lt_add_of_pos_right (by decide : 0 < 1))
  have c0 : mx_cr G K1 0 a := c0.tr (cm.wk (Nat.le_refl 0) (Nat.le_add_right a 1))
  refine mx_putF (ci := 9) (k := 0) dX9_init_12 k_296 (by decide) rfl rfl rfl rfl (by assumption) (by rw [oTx.1]; decide) ?_
  have cu : mx_cr (K1) (mx_uR K1 a 0 (a + 1)) (a + 1) (a + 3) := (mx_cr.rf _ (a + 1) (a + 3)).uR _ _ _ (Or.inl (Nat.lt_succ_self a))
  have f0 : mx_rf (mx_uR K1 a 0 (a + 1)) a 0 = a + 1 := by rw [mx_rf_uR, if_pos ⟨rfl, rfl⟩]
  have oTx := oTx.cr cu (Nat.add_le_add_left (by decide : 1 ≤ 1) a) (Nat.add_le_add_left (by decide : 3 ≤ 3) a)
  have gthis : mx_tg (mx_uR K1 a 0 (a + 1)) a = 19 := gthis
  have zz : mx_sz (mx_uR K1 a 0 (a + 1)) = a + 3 := zz
  have c0 : mx_cr G (mx_uR K1 a 0 (a + 1)) 0 a := c0.uR _ _ _ (Or.inr (Nat.le_refl a))
  refine mx_aload_n (i := 0) (hi := rfl) (hl := rfl) (hd := dX9_init_15) ?_
  refine mx_newE (bc := 142) (bs := 2691) (ci := 2) (a := (a + 3)) (by first | rfl | omega) (by first | rfl | (show _ = _ + 7; omega)) dX9_init_16 k_74 nw_X2 (by decide) (zz) ?_
  have cn : mx_cr (mx_uR K1 a 0 (a + 1)) (mx_nw (mx_uR K1 a 0 (a + 1)) (2 + 10) 0) 0 (a + 3) := (mx_cr.rf _ 0 (a + 3)).nw _ _ (Nat.le_of_eq zz.symm)
  refine mx_dup (hva := rfl) (hd := dX9_init_19) ?_
  refine mx_callIN (bc := 138) (bs := 2601) (As := []) (rest := [.ref (a + 3), .ref a]) (b1 := 4) (b2 := 90) dX9_init_20 (ct_newPattern (mx_nw (mx_uR K1 a 0 (a + 1)) (2 + 10) 0) _ (a + 3) (by rw [mx_tg_nw, if_pos zz.symm]) (by rw [mx_sz_nw, zz])) km_X2_init rfl rfl rfl k_76 k_77 rfl rfl (Nat.le_of_ble_eq_true rfl) (by decide) (fun _ _ _ q => q.elim) (fun r3 K2 Ik2 h4 => ?_)
  obtain ⟨e1, e2, zz, c2, oPt⟩ := h4
  subst e1
  subst e2
  have cm : mx_cr (mx_uR K1 a 0 (a + 1)) K2 0 (a + 3) := cn.tr c2
  have gthis := cm.tg gthis (Nat.zero_le _) (Nat.lt_add_of_pos_right (by decide : 0 < 3))
  have f0 := cm.r f0 (Nat.zero_le _) (Nat.lt_add_of_pos_right (by decide : 0 < 3))
  have c0 : mx_cr G K2 0 a := c0.tr (cm.wk (Nat.le_refl 0) (Nat.le_add_right a 3))
  have oTx := oTx.cr cm (Nat.zero_le _) (Nat.add_le_add_left (by decide : 3 ≤ 3) a)
  refine mx_putF (ci := 9) (k := 1) dX9_init_23 k_297 (by decide) rfl rfl rfl rfl (by assumption) (by rw [oPt.1]; decide) ?_
  have cu : mx_cr (K2) (mx_uR K2 a 1 (a + 3)) (a + 1) (a + 8) := (mx_cr.rf _ (a + 1) (a + 8)).uR _ _ _ (Or.inl (Nat.lt_succ_self a))
  have f0 : mx_rf (mx_uR K2 a 1 (a + 3)) a 0 = a + 1 := by rw [mx_rf_uR, if_neg (fun h => absurd h.2 (by decide))]; exact f0
  have f1 : mx_rf (mx_uR K2 a 1 (a + 3)) a 1 = a + 3 := by rw [mx_rf_uR, if_pos ⟨rfl, rfl⟩]
  have oTx := oTx.cr cu (Nat.add_le_add_left (by decide : 1 ≤ 1) a) (Nat.add_le_add_left (by decide : 3 ≤ 8) a)
  have oPt := oPt.cr cu (Nat.add_le_add_left (by decide : 1 ≤ 3) a) (Nat.add_le_add_left (by decide : 8 ≤ 8) a)
  have gthis : mx_tg (mx_uR K2 a 1 (a + 3)) a = 19 := gthis
  have zz : mx_sz (mx_uR K2 a 1 (a + 3)) = a + 8 := zz
  have c0 : mx_cr G (mx_uR K2 a 1 (a + 3)) 0 a := c0.uR _ _ _ (Or.inr (Nat.le_refl a))
  refine mx_aload_n (i := 0) (hi := rfl) (hl := rfl) (hd := dX9_init_26) ?_
  refine mx_newE (bc := 137) (bs := 2596) (ci := 3) (a := (a + 8)) (by first | rfl | omega) (by first | rfl | (show _ = _ + 5; omega)) dX9_init_27 k_113 nw_X3 (by decide) (zz) ?_
  have cn : mx_cr (mx_uR K2 a 1 (a + 3)) (mx_nw (mx_uR K2 a 1 (a + 3)) (3 + 10) 0) 0 (a + 8) := (mx_cr.rf _ 0 (a + 8)).nw _ _ (Nat.le_of_eq zz.symm)
  refine mx_dup (hva := rfl) (hd := dX9_init_30) ?_
  refine mx_callI (bc := 109) (bs := 2416) (As := []) (rest := [.ref (a + 8), .ref a]) (b1 := 28) (b2 := 180) dX9_init_31 (ct_newReader (mx_nw (mx_uR K2 a 1 (a + 3)) (3 + 10) 0) _ (a + 8) (by rw [mx_tg_nw, if_pos zz.symm]) (by rw [mx_sz_nw, zz])) km_X3_init rfl rfl rfl k_115 k_116 rfl rfl (Nat.le_of_ble_eq_true rfl) (by decide) (fun _ _ _ q => q.elim) (fun r5 K3 Ik3 h6 => ?_)
  obtain ⟨e1, e2, zz, c2, oRd, rRd, oPr⟩ := h6
  subst e1
  subst e2
  have cm : mx_cr (mx_uR K2 a 1 (a + 3)) K3 0 (a + 8) := cn.tr c2
  have gthis := cm.tg gthis (Nat.zero_le _) (Nat.lt_add_of_pos_right (by decide : 0 < 8))
  have f0 := cm.r f0 (Nat.zero_le _) (Nat.lt_add_of_pos_right (by decide : 0 < 8))
  have f1 := cm.r f1 (Nat.zero_le _) (Nat.lt_add_of_pos_right (by decide : 0 < 8))
  have c0 : mx_cr G K3 0 a := c0.tr (cm.wk (Nat.le_refl 0) (Nat.le_add_right a 8))
  have oTx := oTx.cr cm (Nat.zero_le _) (Nat.add_le_add_left (by decide : 3 ≤ 8) a)
  have oPt := oPt.cr cm (Nat.zero_le _) (Nat.add_le_add_left (by decide : 8 ≤ 8) a)
  refine mx_putF (ci := 9) (k := 2) dX9_init_34 k_298 (by decide) rfl rfl rfl rfl (by assumption) (by rw [oRd.1]; decide) ?_
  have cu : mx_cr (K3) (mx_uR K3 a 2 (a + 8)) (a + 1) (a + 37) := (mx_cr.rf _ (a + 1) (a + 37)).uR _ _ _ (Or.inl (Nat.lt_succ_self a))
  have f0 : mx_rf (mx_uR K3 a 2 (a + 8)) a 0 = a + 1 := by rw [mx_rf_uR, if_neg (fun h => absurd h.2 (by decide))]; exact f0
  have f1 : mx_rf (mx_uR K3 a 2 (a + 8)) a 1 = a + 3 := by rw [mx_rf_uR, if_neg (fun h => absurd h.2 (by decide))]; exact f1
  have f2 : mx_rf (mx_uR K3 a 2 (a + 8)) a 2 = a + 8 := by rw [mx_rf_uR, if_pos ⟨rfl, rfl⟩]
  have oTx := oTx.cr cu (Nat.add_le_add_left (by decide : 1 ≤ 1) a) (Nat.add_le_add_left (by decide : 3 ≤ 37) a)
  have oPt := oPt.cr cu (Nat.add_le_add_left (by decide : 1 ≤ 3) a) (Nat.add_le_add_left (by decide : 8 ≤ 37) a)
  have oRd := oRd.cr cu (Nat.add_le_add_left (by decide : 1 ≤ 8) a) (Nat.add_le_add_left (by decide : 37 ≤ 37) a)
  have oPr := oPr.cr cu (Nat.add_le_add_left (by decide : 1 ≤ 12) a) (Nat.add_le_add_left (by decide : 17 ≤ 37) a)
  have rRd := cu.r rRd (Nat.add_le_add_left (by decide : 1 ≤ 8) a) (Nat.add_lt_add_left (by decide : 8 < 37) a)
  have gthis : mx_tg (mx_uR K3 a 2 (a + 8)) a = 19 := gthis
  have zz : mx_sz (mx_uR K3 a 2 (a + 8)) = a + 37 := zz
  have c0 : mx_cr G (mx_uR K3 a 2 (a + 8)) 0 a := c0.uR _ _ _ (Or.inr (Nat.le_refl a))
  refine mx_aload_n (i := 0) (hi := rfl) (hl := rfl) (hd := dX9_init_37) ?_
  refine mx_newE (bc := 108) (bs := 2409) (ci := 6) (a := (a + 37)) (by first | rfl | omega) (by first | rfl | (show _ = _ + 7; omega)) dX9_init_38 k_157 nw_X6 (by decide) (zz) ?_
  have cn : mx_cr (mx_uR K3 a 2 (a + 8)) (mx_nw (mx_uR K3 a 2 (a + 8)) (6 + 10) 0) 0 (a + 37) := (mx_cr.rf _ 0 (a + 37)).nw _ _ (Nat.le_of_eq zz.symm)
  have gn : mx_tg (mx_nw (mx_uR K3 a 2 (a + 8)) (6 + 10) 0) a = 9 + 10 := cn.tg gthis (Nat.zero_le _) (Nat.lt_add_of_pos_right (by decide : 0 < 37))
  have fn : mx_rf (mx_nw (mx_uR K3 a 2 (a + 8)) (6 + 10) 0) a 1 = a + 3 := cn.r f1 (Nat.zero_le _) (Nat.lt_add_of_pos_right (by decide : 0 < 37))
  have pn : mx_tg (mx_nw (mx_uR K3 a 2 (a + 8)) (6 + 10) 0) (a + 3) = 12 := cn.tg oPt.1 (Nat.zero_le _) (Nat.add_lt_add_left (by decide : 3 < 37) a)
  refine mx_dup (hva := rfl) (hd := dX9_init_41) ?_
  refine mx_aload_n (i := 0) (hi := rfl) (hl := rfl) (hd := dX9_init_42) ?_
  refine mx_getR (ci := 9) (k := 1) (r := (a + 3)) dX9_init_43 k_297 (by decide) rfl (by assumption) (fn) (by first | (rw [gSl]; decide) | (rw [pn]; decide)) ?_
  refine mx_callI (bc := 104) (bs := 2309) (As := [.ref (a + 3)]) (rest := [.ref (a + 37), .ref a]) (b1 := 4) (b2 := 100) dX9_init_46 (ct_newState (mx_nw (mx_uR K3 a 2 (a + 8)) (6 + 10) 0) _ (a + 37) (by rw [mx_tg_nw, if_pos zz.symm]) (by rw [mx_sz_nw, zz]) (a + 3) (by rw [pn]; decide) (Nat.add_lt_add_left (by decide) a)) km_X6_init rfl rfl rfl k_159 k_160 rfl rfl (Nat.le_of_ble_eq_true rfl) (by decide) (fun _ _ _ q => q.elim) (fun r7 K4 Ik4 h8 => ?_)
  obtain ⟨e1, e2, zz, c2, oSt, rSt⟩ := h8
  subst e1
  subst e2
  have cm : mx_cr (mx_uR K3 a 2 (a + 8)) K4 0 (a + 37) := cn.tr c2
  have gthis := cm.tg gthis (Nat.zero_le _) (Nat.lt_add_of_pos_right (by decide : 0 < 37))
  have f0 := cm.r f0 (Nat.zero_le _) (Nat.lt_add_of_pos_right (by decide : 0 < 37))
  have f1 := cm.r f1 (Nat.zero_le _) (Nat.lt_add_of_pos_right (by decide : 0 < 37))
  have f2 := cm.r f2 (Nat.zero_le _) (Nat.lt_add_of_pos_right (by decide : 0 < 37))
  have c0 : mx_cr G K4 0 a := c0.tr (cm.wk (Nat.le_refl 0) (Nat.le_add_right a 37))
  have oTx := oTx.cr cm (Nat.zero_le _) (Nat.add_le_add_left (by decide : 3 ≤ 37) a)
  have oPt := oPt.cr cm (Nat.zero_le _) (Nat.add_le_add_left (by decide : 8 ≤ 37) a)
  have oRd := oRd.cr cm (Nat.zero_le _) (Nat.add_le_add_left (by decide : 37 ≤ 37) a)
  have oPr := oPr.cr cm (Nat.zero_le _) (Nat.add_le_add_left (by decide : 17 ≤ 37) a)
  have rRd := cm.r rRd (Nat.zero_le _) (Nat.add_lt_add_left (by decide : 8 < 37) a)
  refine mx_putF (ci := 9) (k := 3) dX9_init_49 k_299 (by decide) rfl rfl rfl rfl (by assumption) (by rw [oSt.1]; decide) ?_
  have cu : mx_cr (K4) (mx_uR K4 a 3 (a + 37)) (a + 1) (a + 42) := (mx_cr.rf _ (a + 1) (a + 42)).uR _ _ _ (Or.inl (Nat.lt_succ_self a))
  have f0 : mx_rf (mx_uR K4 a 3 (a + 37)) a 0 = a + 1 := by rw [mx_rf_uR, if_neg (fun h => absurd h.2 (by decide))]; exact f0
  have f1 : mx_rf (mx_uR K4 a 3 (a + 37)) a 1 = a + 3 := by rw [mx_rf_uR, if_neg (fun h => absurd h.2 (by decide))]; exact f1
  have f2 : mx_rf (mx_uR K4 a 3 (a + 37)) a 2 = a + 8 := by rw [mx_rf_uR, if_neg (fun h => absurd h.2 (by decide))]; exact f2
  have f3 : mx_rf (mx_uR K4 a 3 (a + 37)) a 3 = a + 37 := by rw [mx_rf_uR, if_pos ⟨rfl, rfl⟩]
  have oTx := oTx.cr cu (Nat.add_le_add_left (by decide : 1 ≤ 1) a) (Nat.add_le_add_left (by decide : 3 ≤ 42) a)
  have oPt := oPt.cr cu (Nat.add_le_add_left (by decide : 1 ≤ 3) a) (Nat.add_le_add_left (by decide : 8 ≤ 42) a)
  have oRd := oRd.cr cu (Nat.add_le_add_left (by decide : 1 ≤ 8) a) (Nat.add_le_add_left (by decide : 37 ≤ 42) a)
  have oPr := oPr.cr cu (Nat.add_le_add_left (by decide : 1 ≤ 12) a) (Nat.add_le_add_left (by decide : 17 ≤ 42) a)
  have oSt := oSt.cr cu (Nat.add_le_add_left (by decide : 1 ≤ 37) a) (Nat.add_le_add_left (by decide : 42 ≤ 42) a)
  have rRd := cu.r rRd (Nat.add_le_add_left (by decide : 1 ≤ 8) a) (Nat.add_lt_add_left (by decide : 8 < 42) a)
  have rSt := cu.r rSt (Nat.add_le_add_left (by decide : 1 ≤ 37) a) (Nat.add_lt_add_left (by decide : 37 < 42) a)
  have gthis : mx_tg (mx_uR K4 a 3 (a + 37)) a = 19 := gthis
  have zz : mx_sz (mx_uR K4 a 3 (a + 37)) = a + 42 := zz
  have c0 : mx_cr G (mx_uR K4 a 3 (a + 37)) 0 a := c0.uR _ _ _ (Or.inr (Nat.le_refl a))
  refine mx_aload_n (i := 0) (hi := rfl) (hl := rfl) (hd := dX9_init_52) ?_
  refine mx_newE (bc := 103) (bs := 2302) (ci := 6) (a := (a + 42)) (by first | rfl | omega) (by first | rfl | (show _ = _ + 7; omega)) dX9_init_53 k_157 nw_X6 (by decide) (zz) ?_
  have cn : mx_cr (mx_uR K4 a 3 (a + 37)) (mx_nw (mx_uR K4 a 3 (a + 37)) (6 + 10) 0) 0 (a + 42) := (mx_cr.rf _ 0 (a + 42)).nw _ _ (Nat.le_of_eq zz.symm)
  have gn : mx_tg (mx_nw (mx_uR K4 a 3 (a + 37)) (6 + 10) 0) a = 9 + 10 := cn.tg gthis (Nat.zero_le _) (Nat.lt_add_of_pos_right (by decide : 0 < 42))
  have fn : mx_rf (mx_nw (mx_uR K4 a 3 (a + 37)) (6 + 10) 0) a 1 = a + 3 := cn.r f1 (Nat.zero_le _) (Nat.lt_add_of_pos_right (by decide : 0 < 42))
  have pn : mx_tg (mx_nw (mx_uR K4 a 3 (a + 37)) (6 + 10) 0) (a + 3) = 12 := cn.tg oPt.1 (Nat.zero_le _) (Nat.add_lt_add_left (by decide : 3 < 42) a)
  refine mx_dup (hva := rfl) (hd := dX9_init_56) ?_
  refine mx_aload_n (i := 0) (hi := rfl) (hl := rfl) (hd := dX9_init_57) ?_
  refine mx_getR (ci := 9) (k := 1) (r := (a + 3)) dX9_init_58 k_297 (by decide) rfl (by assumption) (fn) (by first | (rw [gSl]; decide) | (rw [pn]; decide)) ?_
  refine mx_callI (bc := 99) (bs := 2202) (As := [.ref (a + 3)]) (rest := [.ref (a + 42), .ref a]) (b1 := 4) (b2 := 100) dX9_init_61 (ct_newState (mx_nw (mx_uR K4 a 3 (a + 37)) (6 + 10) 0) _ (a + 42) (by rw [mx_tg_nw, if_pos zz.symm]) (by rw [mx_sz_nw, zz]) (a + 3) (by rw [pn]; decide) (Nat.add_lt_add_left (by decide) a)) km_X6_init rfl rfl rfl k_159 k_160 rfl rfl (Nat.le_of_ble_eq_true rfl) (by decide) (fun _ _ _ q => q.elim) (fun r9 K5 Ik5 h10 => ?_)
  obtain ⟨e1, e2, zz, c2, oDr, rDr⟩ := h10
  subst e1
  subst e2
  have cm : mx_cr (mx_uR K4 a 3 (a + 37)) K5 0 (a + 42) := cn.tr c2
  have gthis := cm.tg gthis (Nat.zero_le _) (Nat.lt_add_of_pos_right (by decide : 0 < 42))
  have f0 := cm.r f0 (Nat.zero_le _) (Nat.lt_add_of_pos_right (by decide : 0 < 42))
  have f1 := cm.r f1 (Nat.zero_le _) (Nat.lt_add_of_pos_right (by decide : 0 < 42))
  have f2 := cm.r f2 (Nat.zero_le _) (Nat.lt_add_of_pos_right (by decide : 0 < 42))
  have f3 := cm.r f3 (Nat.zero_le _) (Nat.lt_add_of_pos_right (by decide : 0 < 42))
  have c0 : mx_cr G K5 0 a := c0.tr (cm.wk (Nat.le_refl 0) (Nat.le_add_right a 42))
  have oTx := oTx.cr cm (Nat.zero_le _) (Nat.add_le_add_left (by decide : 3 ≤ 42) a)
  have oPt := oPt.cr cm (Nat.zero_le _) (Nat.add_le_add_left (by decide : 8 ≤ 42) a)
  have oRd := oRd.cr cm (Nat.zero_le _) (Nat.add_le_add_left (by decide : 37 ≤ 42) a)
  have oPr := oPr.cr cm (Nat.zero_le _) (Nat.add_le_add_left (by decide : 17 ≤ 42) a)
  have oSt := oSt.cr cm (Nat.zero_le _) (Nat.add_le_add_left (by decide : 42 ≤ 42) a)
  have rRd := cm.r rRd (Nat.zero_le _) (Nat.add_lt_add_left (by decide : 8 < 42) a)
  have rSt := cm.r rSt (Nat.zero_le _) (Nat.add_lt_add_left (by decide : 37 < 42) a)
  refine mx_putF (ci := 9) (k := 4) dX9_init_64 k_300 (by decide) rfl rfl rfl rfl (by assumption) (by rw [oDr.1]; decide) ?_
  have cu : mx_cr (K5) (mx_uR K5 a 4 (a + 42)) (a + 1) (a + 47) := (mx_cr.rf _ (a + 1) (a + 47)).uR _ _ _ (Or.inl (Nat.lt_succ_self a))
  have f0 : mx_rf (mx_uR K5 a 4 (a + 42)) a 0 = a + 1 := by rw [mx_rf_uR, if_neg (fun h => absurd h.2 (by decide))]; exact f0
  have f1 : mx_rf (mx_uR K5 a 4 (a + 42)) a 1 = a + 3 := by rw [mx_rf_uR, if_neg (fun h => absurd h.2 (by decide))]; exact f1
  have f2 : mx_rf (mx_uR K5 a 4 (a + 42)) a 2 = a + 8 := by rw [mx_rf_uR, if_neg (fun h => absurd h.2 (by decide))]; exact f2
  have f3 : mx_rf (mx_uR K5 a 4 (a + 42)) a 3 = a + 37 := by rw [mx_rf_uR, if_neg (fun h => absurd h.2 (by decide))]; exact f3
  have f4 : mx_rf (mx_uR K5 a 4 (a + 42)) a 4 = a + 42 := by rw [mx_rf_uR, if_pos ⟨rfl, rfl⟩]
  have oTx := oTx.cr cu (Nat.add_le_add_left (by decide : 1 ≤ 1) a) (Nat.add_le_add_left (by decide : 3 ≤ 47) a)
  have oPt := oPt.cr cu (Nat.add_le_add_left (by decide : 1 ≤ 3) a) (Nat.add_le_add_left (by decide : 8 ≤ 47) a)
  have oRd := oRd.cr cu (Nat.add_le_add_left (by decide : 1 ≤ 8) a) (Nat.add_le_add_left (by decide : 37 ≤ 47) a)
  have oPr := oPr.cr cu (Nat.add_le_add_left (by decide : 1 ≤ 12) a) (Nat.add_le_add_left (by decide : 17 ≤ 47) a)
  have oSt := oSt.cr cu (Nat.add_le_add_left (by decide : 1 ≤ 37) a) (Nat.add_le_add_left (by decide : 42 ≤ 47) a)
  have oDr := oDr.cr cu (Nat.add_le_add_left (by decide : 1 ≤ 42) a) (Nat.add_le_add_left (by decide : 47 ≤ 47) a)
  have rRd := cu.r rRd (Nat.add_le_add_left (by decide : 1 ≤ 8) a) (Nat.add_lt_add_left (by decide : 8 < 47) a)
  have rSt := cu.r rSt (Nat.add_le_add_left (by decide : 1 ≤ 37) a) (Nat.add_lt_add_left (by decide : 37 < 47) a)
  have rDr := cu.r rDr (Nat.add_le_add_left (by decide : 1 ≤ 42) a) (Nat.add_lt_add_left (by decide : 42 < 47) a)
  have gthis : mx_tg (mx_uR K5 a 4 (a + 42)) a = 19 := gthis
  have zz : mx_sz (mx_uR K5 a 4 (a + 42)) = a + 47 := zz
  have c0 : mx_cr G (mx_uR K5 a 4 (a + 42)) 0 a := c0.uR _ _ _ (Or.inr (Nat.le_refl a))
  refine mx_aload_n (i := 0) (hi := rfl) (hl := rfl) (hd := dX9_init_67) ?_
  refine mx_newE (bc := 98) (bs := 2199) (ci := 1) (a := (a + 47)) (by first | rfl | omega) (by first | rfl | (show _ = _ + 3; omega)) dX9_init_68 k_210 nw_X1 (by decide) (zz) ?_
  have cn : mx_cr (mx_uR K5 a 4 (a + 42)) (mx_nw (mx_uR K5 a 4 (a + 42)) (1 + 10) 0) 0 (a + 47) := (mx_cr.rf _ 0 (a + 47)).nw _ _ (Nat.le_of_eq zz.symm)
  have gn : mx_tg (mx_nw (mx_uR K5 a 4 (a + 42)) (1 + 10) 0) a = 9 + 10 := cn.tg gthis (Nat.zero_le _) (Nat.lt_add_of_pos_right (by decide : 0 < 47))
  have fn : mx_rf (mx_nw (mx_uR K5 a 4 (a + 42)) (1 + 10) 0) a 1 = a + 3 := cn.r f1 (Nat.zero_le _) (Nat.lt_add_of_pos_right (by decide : 0 < 47))
  have pn : mx_tg (mx_nw (mx_uR K5 a 4 (a + 42)) (1 + 10) 0) (a + 3) = 12 := cn.tg oPt.1 (Nat.zero_le _) (Nat.add_lt_add_left (by decide : 3 < 47) a)
  refine mx_dup (hva := rfl) (hd := dX9_init_71) ?_
  refine mx_aload_n (i := 0) (hi := rfl) (hl := rfl) (hd := dX9_init_72) ?_
  refine mx_getR (ci := 9) (k := 1) (r := (a + 3)) dX9_init_73 k_297 (by decide) rfl (by assumption) (fn) (by first | (rw [gSl]; decide) | (rw [pn]; decide)) ?_
  refine mx_callI (bc := 27) (bs := 687) (As := [.ref (a + 3)]) (rest := [.ref (a + 47), .ref a]) (b1 := 71) (b2 := 1512) dX9_init_76 (ct_newHist (mx_nw (mx_uR K5 a 4 (a + 42)) (1 + 10) 0) _ (a + 47) (by rw [mx_tg_nw, if_pos zz.symm]) (by rw [mx_sz_nw, zz]) (a + 3) (by rw [pn]; decide) (Nat.add_lt_add_left (by decide) a)) km_X1_init rfl rfl rfl k_212 k_213 rfl rfl (Nat.le_of_ble_eq_true rfl) (by decide) (fun _ _ _ q => q.elim) (fun r11 K6 Ik6 h12 => ?_)
  obtain ⟨e1, e2, zz, c2, oHi, rh⟩ := h12
  subst e1
  subst e2
  have cm : mx_cr (mx_uR K5 a 4 (a + 42)) K6 0 (a + 47) := cn.tr c2
  have gthis := cm.tg gthis (Nat.zero_le _) (Nat.lt_add_of_pos_right (by decide : 0 < 47))
  have f0 := cm.r f0 (Nat.zero_le _) (Nat.lt_add_of_pos_right (by decide : 0 < 47))
  have f1 := cm.r f1 (Nat.zero_le _) (Nat.lt_add_of_pos_right (by decide : 0 < 47))
  have f2 := cm.r f2 (Nat.zero_le _) (Nat.lt_add_of_pos_right (by decide : 0 < 47))
  have f3 := cm.r f3 (Nat.zero_le _) (Nat.lt_add_of_pos_right (by decide : 0 < 47))
  have f4 := cm.r f4 (Nat.zero_le _) (Nat.lt_add_of_pos_right (by decide : 0 < 47))
  have c0 : mx_cr G K6 0 a := c0.tr (cm.wk (Nat.le_refl 0) (Nat.le_add_right a 47))
  have oTx := oTx.cr cm (Nat.zero_le _) (Nat.add_le_add_left (by decide : 3 ≤ 47) a)
  have oPt := oPt.cr cm (Nat.zero_le _) (Nat.add_le_add_left (by decide : 8 ≤ 47) a)
  have oRd := oRd.cr cm (Nat.zero_le _) (Nat.add_le_add_left (by decide : 37 ≤ 47) a)
  have oPr := oPr.cr cm (Nat.zero_le _) (Nat.add_le_add_left (by decide : 17 ≤ 47) a)
  have oSt := oSt.cr cm (Nat.zero_le _) (Nat.add_le_add_left (by decide : 42 ≤ 47) a)
  have oDr := oDr.cr cm (Nat.zero_le _) (Nat.add_le_add_left (by decide : 47 ≤ 47) a)
  have rRd := cm.r rRd (Nat.zero_le _) (Nat.add_lt_add_left (by decide : 8 < 47) a)
  have rSt := cm.r rSt (Nat.zero_le _) (Nat.add_lt_add_left (by decide : 37 < 47) a)
  have rDr := cm.r rDr (Nat.zero_le _) (Nat.add_lt_add_left (by decide : 42 < 47) a)
  refine mx_putF (ci := 9) (k := 5) dX9_init_79 k_301 (by decide) rfl rfl rfl rfl (by assumption) (by rw [oHi.1]; decide) ?_
  have cu : mx_cr (K6) (mx_uR K6 a 5 (a + 47)) (a + 1) (a + 119) := (mx_cr.rf _ (a + 1) (a + 119)).uR _ _ _ (Or.inl (Nat.lt_succ_self a))
  have f0 : mx_rf (mx_uR K6 a 5 (a + 47)) a 0 = a + 1 := by rw [mx_rf_uR, if_neg (fun h => absurd h.2 (by decide))]; exact f0
  have f1 : mx_rf (mx_uR K6 a 5 (a + 47)) a 1 = a + 3 := by rw [mx_rf_uR, if_neg (fun h => absurd h.2 (by decide))]; exact f1
  have f2 : mx_rf (mx_uR K6 a 5 (a + 47)) a 2 = a + 8 := by rw [mx_rf_uR, if_neg (fun h => absurd h.2 (by decide))]; exact f2
  have f3 : mx_rf (mx_uR K6 a 5 (a + 47)) a 3 = a + 37 := by rw [mx_rf_uR, if_neg (fun h => absurd h.2 (by decide))]; exact f3
  have f4 : mx_rf (mx_uR K6 a 5 (a + 47)) a 4 = a + 42 := by rw [mx_rf_uR, if_neg (fun h => absurd h.2 (by decide))]; exact f4
  have f5 : mx_rf (mx_uR K6 a 5 (a + 47)) a 5 = a + 47 := by rw [mx_rf_uR, if_pos ⟨rfl, rfl⟩]
  have oTx := oTx.cr cu (Nat.add_le_add_left (by decide : 1 ≤ 1) a) (Nat.add_le_add_left (by decide : 3 ≤ 119) a)
  have oPt := oPt.cr cu (Nat.add_le_add_left (by decide : 1 ≤ 3) a) (Nat.add_le_add_left (by decide : 8 ≤ 119) a)
  have oRd := oRd.cr cu (Nat.add_le_add_left (by decide : 1 ≤ 8) a) (Nat.add_le_add_left (by decide : 37 ≤ 119) a)
  have oPr := oPr.cr cu (Nat.add_le_add_left (by decide : 1 ≤ 12) a) (Nat.add_le_add_left (by decide : 17 ≤ 119) a)
  have oSt := oSt.cr cu (Nat.add_le_add_left (by decide : 1 ≤ 37) a) (Nat.add_le_add_left (by decide : 42 ≤ 119) a)
  have oDr := oDr.cr cu (Nat.add_le_add_left (by decide : 1 ≤ 42) a) (Nat.add_le_add_left (by decide : 47 ≤ 119) a)
  have oHi := oHi.cr cu (Nat.add_le_add_left (by decide : 1 ≤ 47) a) (Nat.add_le_add_left (by decide : 119 ≤ 119) a)
  have rRd := cu.r rRd (Nat.add_le_add_left (by decide : 1 ≤ 8) a) (Nat.add_lt_add_left (by decide : 8 < 119) a)
  have rSt := cu.r rSt (Nat.add_le_add_left (by decide : 1 ≤ 37) a) (Nat.add_lt_add_left (by decide : 37 < 119) a)
  have rDr := cu.r rDr (Nat.add_le_add_left (by decide : 1 ≤ 42) a) (Nat.add_lt_add_left (by decide : 42 < 119) a)
  have rh : ∀ j, j < 14 → mx_rf (mx_uR K6 a 5 (a + 47)) (a + 49 + 5 * j) 6 = a + 3 := fun j hj => cu.r (rh j hj) (nh1 j (a + 1) (Or.inr (Nat.add_le_add_left (by decide : 1 ≤ 49) a))) (nh2 j 119 hj (by decide))
  have gthis : mx_tg (mx_uR K6 a 5 (a + 47)) a = 19 := gthis
  have zz : mx_sz (mx_uR K6 a 5 (a + 47)) = a + 119 := zz
  have c0 : mx_cr G (mx_uR K6 a 5 (a + 47)) 0 a := c0.uR _ _ _ (Or.inr (Nat.le_refl a))
  refine mx_aload_n (i := 0) (hi := rfl) (hl := rfl) (hd := dX9_init_82) ?_
  refine mx_iconstN 2 dX9_init_83 (by decide) ?_
  refine mx_anewE (bc := 26) (bs := 685) (t := 5) (n := 2) (a := (a + 119)) (by first | rfl | omega) (by first | rfl | omega) dX9_init_84 rfl (by decide) k_157 (by decide) rfl (by decide) (zz) ?_
  have cm : mx_cr (mx_uR K6 a 5 (a + 47)) (mx_nw (mx_uR K6 a 5 (a + 47)) 5 2) 0 (a + 119) := (mx_cr.rf _ 0 (a + 119)).nw _ _ (Nat.le_of_eq zz.symm)
  have f0 := cm.r f0 (Nat.zero_le _) (Nat.lt_add_of_pos_right (by decide : 0 < 119))
  have f1 := cm.r f1 (Nat.zero_le _) (Nat.lt_add_of_pos_right (by decide : 0 < 119))
  have f2 := cm.r f2 (Nat.zero_le _) (Nat.lt_add_of_pos_right (by decide : 0 < 119))
  have f3 := cm.r f3 (Nat.zero_le _) (Nat.lt_add_of_pos_right (by decide : 0 < 119))
  have f4 := cm.r f4 (Nat.zero_le _) (Nat.lt_add_of_pos_right (by decide : 0 < 119))
  have f5 := cm.r f5 (Nat.zero_le _) (Nat.lt_add_of_pos_right (by decide : 0 < 119))
  have oTx := oTx.cr cm (Nat.zero_le _) (Nat.add_le_add_left (by decide : 3 ≤ 119) a)
  have oPt := oPt.cr cm (Nat.zero_le _) (Nat.add_le_add_left (by decide : 8 ≤ 119) a)
  have oRd := oRd.cr cm (Nat.zero_le _) (Nat.add_le_add_left (by decide : 37 ≤ 119) a)
  have oPr := oPr.cr cm (Nat.zero_le _) (Nat.add_le_add_left (by decide : 17 ≤ 119) a)
  have oSt := oSt.cr cm (Nat.zero_le _) (Nat.add_le_add_left (by decide : 42 ≤ 119) a)
  have oDr := oDr.cr cm (Nat.zero_le _) (Nat.add_le_add_left (by decide : 47 ≤ 119) a)
  have oHi := oHi.cr cm (Nat.zero_le _) (Nat.add_le_add_left (by decide : 119 ≤ 119) a)
  have rRd := cm.r rRd (Nat.zero_le _) (Nat.add_lt_add_left (by decide : 8 < 119) a)
  have rSt := cm.r rSt (Nat.zero_le _) (Nat.add_lt_add_left (by decide : 37 < 119) a)
  have rDr := cm.r rDr (Nat.zero_le _) (Nat.add_lt_add_left (by decide : 42 < 119) a)
  have rh : ∀ j, j < 14 → mx_rf (mx_nw (mx_uR K6 a 5 (a + 47)) 5 2) (a + 49 + 5 * j) 6 = a + 3 := fun j hj => cm.r (rh j hj) (nh1 j 0 (Or.inl rfl)) (nh2 j 119 hj (by decide))
  have gSl : mx_tg (mx_nw (mx_uR K6 a 5 (a + 47)) 5 2) (a + 119) = 5 := by rw [mx_tg_nw, if_pos zz.symm]
  have lSl : mx_ln (mx_nw (mx_uR K6 a 5 (a + 47)) 5 2) (a + 119) = 2 := by rw [mx_ln_nw, if_pos zz.symm]
  have gthis := cm.tg gthis (Nat.zero_le _) (Nat.lt_add_of_pos_right (by decide : 0 < 119))
  have c0 : mx_cr G (mx_nw (mx_uR K6 a 5 (a + 47)) 5 2) 0 a := c0.tr (cm.wk (Nat.le_refl 0) (Nat.le_add_right a 119))
  have zz : mx_sz (mx_nw (mx_uR K6 a 5 (a + 47)) 5 2) = a + 120 := by rw [mx_sz_nw, zz]
  refine mx_putF (ci := 9) (k := 6) dX9_init_87 k_302 (by decide) rfl rfl rfl rfl (by assumption) (by rw [gSl]; decide) ?_
  have cu : mx_cr (mx_nw (mx_uR K6 a 5 (a + 47)) 5 2) (mx_uR (mx_nw (mx_uR K6 a 5 (a + 47)) 5 2) a 6 (a + 119)) (a + 1) (a + 120) := (mx_cr.rf _ (a + 1) (a + 120)).uR _ _ _ (Or.inl (Nat.lt_succ_self a))
  have f0 : mx_rf (mx_uR (mx_nw (mx_uR K6 a 5 (a + 47)) 5 2) a 6 (a + 119)) a 0 = a + 1 := by rw [mx_rf_uR, if_neg (fun h => absurd h.2 (by decide))]; exact f0
  have f1 : mx_rf (mx_uR (mx_nw (mx_uR K6 a 5 (a + 47)) 5 2) a 6 (a + 119)) a 1 = a + 3 := by rw [mx_rf_uR, if_neg (fun h => absurd h.2 (by decide))]; exact f1
  have f2 : mx_rf (mx_uR (mx_nw (mx_uR K6 a 5 (a + 47)) 5 2) a 6 (a + 119)) a 2 = a + 8 := by rw [mx_rf_uR, if_neg (fun h => absurd h.2 (by decide))]; exact f2
  have f3 : mx_rf (mx_uR (mx_nw (mx_uR K6 a 5 (a + 47)) 5 2) a 6 (a + 119)) a 3 = a + 37 := by rw [mx_rf_uR, if_neg (fun h => absurd h.2 (by decide))]; exact f3
  have f4 : mx_rf (mx_uR (mx_nw (mx_uR K6 a 5 (a + 47)) 5 2) a 6 (a + 119)) a 4 = a + 42 := by rw [mx_rf_uR, if_neg (fun h => absurd h.2 (by decide))]; exact f4
  have f5 : mx_rf (mx_uR (mx_nw (mx_uR K6 a 5 (a + 47)) 5 2) a 6 (a + 119)) a 5 = a + 47 := by rw [mx_rf_uR, if_neg (fun h => absurd h.2 (by decide))]; exact f5
  have f6 : mx_rf (mx_uR (mx_nw (mx_uR K6 a 5 (a + 47)) 5 2) a 6 (a + 119)) a 6 = a + 119 := by rw [mx_rf_uR, if_pos ⟨rfl, rfl⟩]
  have oTx := oTx.cr cu (Nat.add_le_add_left (by decide : 1 ≤ 1) a) (Nat.add_le_add_left (by decide : 3 ≤ 120) a)
  have oPt := oPt.cr cu (Nat.add_le_add_left (by decide : 1 ≤ 3) a) (Nat.add_le_add_left (by decide : 8 ≤ 120) a)
  have oRd := oRd.cr cu (Nat.add_le_add_left (by decide : 1 ≤ 8) a) (Nat.add_le_add_left (by decide : 37 ≤ 120) a)
  have oPr := oPr.cr cu (Nat.add_le_add_left (by decide : 1 ≤ 12) a) (Nat.add_le_add_left (by decide : 17 ≤ 120) a)
  have oSt := oSt.cr cu (Nat.add_le_add_left (by decide : 1 ≤ 37) a) (Nat.add_le_add_left (by decide : 42 ≤ 120) a)
  have oDr := oDr.cr cu (Nat.add_le_add_left (by decide : 1 ≤ 42) a) (Nat.add_le_add_left (by decide : 47 ≤ 120) a)
  have oHi := oHi.cr cu (Nat.add_le_add_left (by decide : 1 ≤ 47) a) (Nat.add_le_add_left (by decide : 119 ≤ 120) a)
  have rRd := cu.r rRd (Nat.add_le_add_left (by decide : 1 ≤ 8) a) (Nat.add_lt_add_left (by decide : 8 < 120) a)
  have rSt := cu.r rSt (Nat.add_le_add_left (by decide : 1 ≤ 37) a) (Nat.add_lt_add_left (by decide : 37 < 120) a)
  have rDr := cu.r rDr (Nat.add_le_add_left (by decide : 1 ≤ 42) a) (Nat.add_lt_add_left (by decide : 42 < 120) a)
  have gSl := cu.tg gSl (Nat.add_le_add_left (by decide : 1 ≤ 119) a) (Nat.add_lt_add_left (by decide : 119 < 120) a)
  have lSl := (cu (a + 119) (Nat.add_le_add_left (by decide : 1 ≤ 119) a) (Nat.add_lt_add_left (by decide : 119 < 120) a)).2.1.trans lSl
  have rh : ∀ j, j < 14 → mx_rf (mx_uR (mx_nw (mx_uR K6 a 5 (a + 47)) 5 2) a 6 (a + 119)) (a + 49 + 5 * j) 6 = a + 3 := fun j hj => cu.r (rh j hj) (nh1 j (a + 1) (Or.inr (Nat.add_le_add_left (by decide : 1 ≤ 49) a))) (nh2 j 120 hj (by decide))
  have gthis : mx_tg (mx_uR (mx_nw (mx_uR K6 a 5 (a + 47)) 5 2) a 6 (a + 119)) a = 19 := gthis
  have zz : mx_sz (mx_uR (mx_nw (mx_uR K6 a 5 (a + 47)) 5 2) a 6 (a + 119)) = a + 120 := zz
  have c0 : mx_cr G (mx_uR (mx_nw (mx_uR K6 a 5 (a + 47)) 5 2) a 6 (a + 119)) 0 a := c0.uR _ _ _ (Or.inr (Nat.le_refl a))
  refine mx_iconstN 0 dX9_init_90 (by decide) ?_
  refine mx_istoreE_n (i := 1) (ls' := [some (.ref a), some (.int (nI 0))]) (hi := rfl) (hd := dX9_init_91) (hn := by decide) (hok := rfl) (hls := rfl) ?_
  refine mx_iload_n (i := 1) (hi := rfl) (hl := rfl) (hd := dX9_init_92) ?_
  refine mx_iconstN 2 dX9_init_93 (by decide) ?_
  refine mx_cmpN_ge 120 dX9_init_94 (by decide) (by omega) (by omega) (fun c94 => ?_) (fun c94 => ?_)
  · skip
    exact absurd c94 (by decide)
  · skip
    refine mx_aload_n (i := 0) (hi := rfl) (hl := rfl) (hd := dX9_init_97) ?_
    refine mx_getR (ci := 9) (k := 6) (r := (a + 119)) dX9_init_98 k_302 (by decide) rfl (by assumption) (f6) (by first | (rw [gSl]; decide) | (rw [pn]; decide)) ?_
    refine mx_iload_n (i := 1) (hi := rfl) (hl := rfl) (hd := dX9_init_101) ?_
    refine mx_newE (bc := 25) (bs := 678) (ci := 6) (a := (a + 120)) (by first | rfl | omega) (by first | rfl | (show _ = _ + 7; omega)) dX9_init_102 k_157 nw_X6 (by decide) (zz) ?_
    have cn : mx_cr (mx_uR (mx_nw (mx_uR K6 a 5 (a + 47)) 5 2) a 6 (a + 119)) (mx_nw (mx_uR (mx_nw (mx_uR K6 a 5 (a + 47)) 5 2) a 6 (a + 119)) (6 + 10) 0) 0 (a + 120) := (mx_cr.rf _ 0 (a + 120)).nw _ _ (Nat.le_of_eq zz.symm)
    have gn : mx_tg (mx_nw (mx_uR (mx_nw (mx_uR K6 a 5 (a + 47)) 5 2) a 6 (a + 119)) (6 + 10) 0) a = 9 + 10 := cn.tg gthis (Nat.zero_le _) (Nat.lt_add_of_pos_right (by decide : 0 < 120))
    have fn : mx_rf (mx_nw (mx_uR (mx_nw (mx_uR K6 a 5 (a + 47)) 5 2) a 6 (a + 119)) (6 + 10) 0) a 1 = a + 3 := cn.r f1 (Nat.zero_le _) (Nat.lt_add_of_pos_right (by decide : 0 < 120))
    have pn : mx_tg (mx_nw (mx_uR (mx_nw (mx_uR K6 a 5 (a + 47)) 5 2) a 6 (a + 119)) (6 + 10) 0) (a + 3) = 12 := cn.tg oPt.1 (Nat.zero_le _) (Nat.add_lt_add_left (by decide : 3 < 120) a)
    refine mx_dup (hva := rfl) (hd := dX9_init_105) ?_
    refine mx_aload_n (i := 0) (hi := rfl) (hl := rfl) (hd := dX9_init_106) ?_
    refine mx_getR (ci := 9) (k := 1) (r := (a + 3)) dX9_init_107 k_297 (by decide) rfl (by assumption) (fn) (by first | (rw [gSl]; decide) | (rw [pn]; decide)) ?_
    refine mx_callI (bc := 21) (bs := 578) (As := [.ref (a + 3)]) (rest := [.ref (a + 120), .int (nI 0), .ref (a + 119)]) (b1 := 4) (b2 := 100) dX9_init_110 (ct_newState (mx_nw (mx_uR (mx_nw (mx_uR K6 a 5 (a + 47)) 5 2) a 6 (a + 119)) (6 + 10) 0) _ (a + 120) (by rw [mx_tg_nw, if_pos zz.symm]) (by rw [mx_sz_nw, zz]) (a + 3) (by rw [pn]; decide) (Nat.add_lt_add_left (by decide) a)) km_X6_init rfl rfl rfl k_159 k_160 rfl rfl (Nat.le_of_ble_eq_true rfl) (by decide) (fun _ _ _ q => q.elim) (fun r13 K20 Ik20 h14 => ?_)
    obtain ⟨e1, e2, zz, c2, oS0, rS0⟩ := h14
    subst e1
    subst e2
    have cm : mx_cr (mx_uR (mx_nw (mx_uR K6 a 5 (a + 47)) 5 2) a 6 (a + 119)) K20 0 (a + 120) := cn.tr c2
    have gthis := cm.tg gthis (Nat.zero_le _) (Nat.lt_add_of_pos_right (by decide : 0 < 120))
    have f0 := cm.r f0 (Nat.zero_le _) (Nat.lt_add_of_pos_right (by decide : 0 < 120))
    have f1 := cm.r f1 (Nat.zero_le _) (Nat.lt_add_of_pos_right (by decide : 0 < 120))
    have f2 := cm.r f2 (Nat.zero_le _) (Nat.lt_add_of_pos_right (by decide : 0 < 120))
    have f3 := cm.r f3 (Nat.zero_le _) (Nat.lt_add_of_pos_right (by decide : 0 < 120))
    have f4 := cm.r f4 (Nat.zero_le _) (Nat.lt_add_of_pos_right (by decide : 0 < 120))
    have f5 := cm.r f5 (Nat.zero_le _) (Nat.lt_add_of_pos_right (by decide : 0 < 120))
    have f6 := cm.r f6 (Nat.zero_le _) (Nat.lt_add_of_pos_right (by decide : 0 < 120))
    have c0 : mx_cr G K20 0 a := c0.tr (cm.wk (Nat.le_refl 0) (Nat.le_add_right a 120))
    have oTx := oTx.cr cm (Nat.zero_le _) (Nat.add_le_add_left (by decide : 3 ≤ 120) a)
    have oPt := oPt.cr cm (Nat.zero_le _) (Nat.add_le_add_left (by decide : 8 ≤ 120) a)
    have oRd := oRd.cr cm (Nat.zero_le _) (Nat.add_le_add_left (by decide : 37 ≤ 120) a)
    have oPr := oPr.cr cm (Nat.zero_le _) (Nat.add_le_add_left (by decide : 17 ≤ 120) a)
    have oSt := oSt.cr cm (Nat.zero_le _) (Nat.add_le_add_left (by decide : 42 ≤ 120) a)
    have oDr := oDr.cr cm (Nat.zero_le _) (Nat.add_le_add_left (by decide : 47 ≤ 120) a)
    have oHi := oHi.cr cm (Nat.zero_le _) (Nat.add_le_add_left (by decide : 119 ≤ 120) a)
    have rRd := cm.r rRd (Nat.zero_le _) (Nat.add_lt_add_left (by decide : 8 < 120) a)
    have rSt := cm.r rSt (Nat.zero_le _) (Nat.add_lt_add_left (by decide : 37 < 120) a)
    have rDr := cm.r rDr (Nat.zero_le _) (Nat.add_lt_add_left (by decide : 42 < 120) a)
    have gSl := cm.tg gSl (Nat.zero_le _) (Nat.add_lt_add_left (by decide : 119 < 120) a)
    have lSl := (cm (a + 119) (Nat.zero_le _) (Nat.add_lt_add_left (by decide : 119 < 120) a)).2.1.trans lSl
    have rh : ∀ j, j < 14 → mx_rf (K20) (a + 49 + 5 * j) 6 = a + 3 := fun j hj => cm.r (rh j hj) (nh1 j 0 (Or.inl rfl)) (nh2 j 120 hj (by decide))
    have gSn : mx_tg K20 (a + 120) = 6 + 10 := oS0.1
    refine mx_aast (ci := 6) 0 dX9_init_113 (by assumption) (by decide) ⟨rfl, by rw [lSl]; decide, by rw [lSl]; decide⟩ (by assumption) ?_
    have cu : mx_cr (K20) (mx_uR K20 (a + 119) 0 (a + 120)) 0 (a + 119) := (mx_cr.rf _ 0 (a + 119)).uR _ _ _ (Or.inr (Nat.le_refl _))
    have cv : mx_cr (K20) (mx_uR K20 (a + 119) 0 (a + 120)) (a + 120) (a + 125) := (mx_cr.rf _ (a + 120) (a + 125)).uR _ _ _ (Or.inl (Nat.lt_succ_self _))
    have f0 := cu.r f0 (Nat.zero_le _) (Nat.lt_add_of_pos_right (by decide : 0 < 119))
    have f1 := cu.r f1 (Nat.zero_le _) (Nat.lt_add_of_pos_right (by decide : 0 < 119))
    have f2 := cu.r f2 (Nat.zero_le _) (Nat.lt_add_of_pos_right (by decide : 0 < 119))
    have f3 := cu.r f3 (Nat.zero_le _) (Nat.lt_add_of_pos_right (by decide : 0 < 119))
    have f4 := cu.r f4 (Nat.zero_le _) (Nat.lt_add_of_pos_right (by decide : 0 < 119))
    have f5 := cu.r f5 (Nat.zero_le _) (Nat.lt_add_of_pos_right (by decide : 0 < 119))
    have f6 := cu.r f6 (Nat.zero_le _) (Nat.lt_add_of_pos_right (by decide : 0 < 119))
    have oTx := oTx.cr cu (Nat.zero_le _) (Nat.add_le_add_left (by decide : 3 ≤ 119) a)
    have oPt := oPt.cr cu (Nat.zero_le _) (Nat.add_le_add_left (by decide : 8 ≤ 119) a)
    have oRd := oRd.cr cu (Nat.zero_le _) (Nat.add_le_add_left (by decide : 37 ≤ 119) a)
    have oPr := oPr.cr cu (Nat.zero_le _) (Nat.add_le_add_left (by decide : 17 ≤ 119) a)
    have oSt := oSt.cr cu (Nat.zero_le _) (Nat.add_le_add_left (by decide : 42 ≤ 119) a)
    have oDr := oDr.cr cu (Nat.zero_le _) (Nat.add_le_add_left (by decide : 47 ≤ 119) a)
    have oHi := oHi.cr cu (Nat.zero_le _) (Nat.add_le_add_left (by decide : 119 ≤ 119) a)
    have rRd := cu.r rRd (Nat.zero_le _) (Nat.add_lt_add_left (by decide : 8 < 119) a)
    have rSt := cu.r rSt (Nat.zero_le _) (Nat.add_lt_add_left (by decide : 37 < 119) a)
    have rDr := cu.r rDr (Nat.zero_le _) (Nat.add_lt_add_left (by decide : 42 < 119) a)
    have rh : ∀ j, j < 14 → mx_rf (mx_uR K20 (a + 119) 0 (a + 120)) (a + 49 + 5 * j) 6 = a + 3 := fun j hj => cu.r (rh j hj) (nh1 j 0 (Or.inl rfl)) (nh2 j 119 hj (by decide))
    have oS0 := oS0.cr cv (Nat.add_le_add_left (by decide : 120 ≤ 120) a) (Nat.add_le_add_left (by decide : 125 ≤ 125) a)
    have rS0 := cv.r rS0 (Nat.add_le_add_left (by decide : 120 ≤ 120) a) (Nat.add_lt_add_left (by decide : 120 < 125) a)
    have rq0 : mx_rf (mx_uR K20 (a + 119) 0 (a + 120)) (a + 119) 0 = a + 120 := by rw [mx_rf_uR, if_pos ⟨rfl, rfl⟩]
    have gSl : mx_tg (mx_uR K20 (a + 119) 0 (a + 120)) (a + 119) = 5 := gSl
    have lSl : mx_ln (mx_uR K20 (a + 119) 0 (a + 120)) (a + 119) = 2 := lSl
    have gthis : mx_tg (mx_uR K20 (a + 119) 0 (a + 120)) a = 19 := gthis
    have zz : mx_sz (mx_uR K20 (a + 119) 0 (a + 120)) = a + 125 := zz
    have c0 : mx_cr G (mx_uR K20 (a + 119) 0 (a + 120)) 0 a := c0.uR _ _ _ (Or.inr (Nat.le_add_right a 119))
    refine mx_iincE (i := 1) (ls' := [some (.ref a), some (.int (nI 1))]) 1 dX9_init_114 rfl (by decide) (by decide) rfl rfl ?_
    refine mx_goto (tgt := 92) dX9_init_117 (by decide) ?_
    refine mx_iload_n (i := 1) (hi := rfl) (hl := rfl) (hd := dX9_init_92) ?_
    refine mx_iconstN 2 dX9_init_93 (by decide) ?_
    refine mx_cmpN_ge 120 dX9_init_94 (by decide) (by omega) (by omega) (fun c94 => ?_) (fun c94 => ?_)
    · skip
      exact absurd c94 (by decide)
    · skip
      refine mx_aload_n (i := 0) (hi := rfl) (hl := rfl) (hd := dX9_init_97) ?_
      refine mx_getR (ci := 9) (k := 6) (r := (a + 119)) dX9_init_98 k_302 (by decide) rfl (by assumption) (f6) (by first | (rw [gSl]; decide) | (rw [pn]; decide)) ?_
      refine mx_iload_n (i := 1) (hi := rfl) (hl := rfl) (hd := dX9_init_101) ?_
      refine mx_newE (bc := 20) (bs := 571) (ci := 6) (a := (a + 125)) (by first | rfl | omega) (by first | rfl | (show _ = _ + 7; omega)) dX9_init_102 k_157 nw_X6 (by decide) (zz) ?_
      have cn : mx_cr (mx_uR K20 (a + 119) 0 (a + 120)) (mx_nw (mx_uR K20 (a + 119) 0 (a + 120)) (6 + 10) 0) 0 (a + 125) := (mx_cr.rf _ 0 (a + 125)).nw _ _ (Nat.le_of_eq zz.symm)
      have gn : mx_tg (mx_nw (mx_uR K20 (a + 119) 0 (a + 120)) (6 + 10) 0) a = 9 + 10 := cn.tg gthis (Nat.zero_le _) (Nat.lt_add_of_pos_right (by decide : 0 < 125))
      have fn : mx_rf (mx_nw (mx_uR K20 (a + 119) 0 (a + 120)) (6 + 10) 0) a 1 = a + 3 := cn.r f1 (Nat.zero_le _) (Nat.lt_add_of_pos_right (by decide : 0 < 125))
      have pn : mx_tg (mx_nw (mx_uR K20 (a + 119) 0 (a + 120)) (6 + 10) 0) (a + 3) = 12 := cn.tg oPt.1 (Nat.zero_le _) (Nat.add_lt_add_left (by decide : 3 < 125) a)
      refine mx_dup (hva := rfl) (hd := dX9_init_105) ?_
      refine mx_aload_n (i := 0) (hi := rfl) (hl := rfl) (hd := dX9_init_106) ?_
      refine mx_getR (ci := 9) (k := 1) (r := (a + 3)) dX9_init_107 k_297 (by decide) rfl (by assumption) (fn) (by first | (rw [gSl]; decide) | (rw [pn]; decide)) ?_
      refine mx_callI (bc := 16) (bs := 471) (As := [.ref (a + 3)]) (rest := [.ref (a + 125), .int (nI 1), .ref (a + 119)]) (b1 := 4) (b2 := 100) dX9_init_110 (ct_newState (mx_nw (mx_uR K20 (a + 119) 0 (a + 120)) (6 + 10) 0) _ (a + 125) (by rw [mx_tg_nw, if_pos zz.symm]) (by rw [mx_sz_nw, zz]) (a + 3) (by rw [pn]; decide) (Nat.add_lt_add_left (by decide) a)) km_X6_init rfl rfl rfl k_159 k_160 rfl rfl (Nat.le_of_ble_eq_true rfl) (by decide) (fun _ _ _ q => q.elim) (fun r15 K21 Ik21 h16 => ?_)
      obtain ⟨e1, e2, zz, c2, oS1, rS1⟩ := h16
      subst e1
      subst e2
      have cm : mx_cr (mx_uR K20 (a + 119) 0 (a + 120)) K21 0 (a + 125) := cn.tr c2
      have gthis := cm.tg gthis (Nat.zero_le _) (Nat.lt_add_of_pos_right (by decide : 0 < 125))
      have f0 := cm.r f0 (Nat.zero_le _) (Nat.lt_add_of_pos_right (by decide : 0 < 125))
      have f1 := cm.r f1 (Nat.zero_le _) (Nat.lt_add_of_pos_right (by decide : 0 < 125))
      have f2 := cm.r f2 (Nat.zero_le _) (Nat.lt_add_of_pos_right (by decide : 0 < 125))
      have f3 := cm.r f3 (Nat.zero_le _) (Nat.lt_add_of_pos_right (by decide : 0 < 125))
      have f4 := cm.r f4 (Nat.zero_le _) (Nat.lt_add_of_pos_right (by decide : 0 < 125))
      have f5 := cm.r f5 (Nat.zero_le _) (Nat.lt_add_of_pos_right (by decide : 0 < 125))
      have f6 := cm.r f6 (Nat.zero_le _) (Nat.lt_add_of_pos_right (by decide : 0 < 125))
      have c0 : mx_cr G K21 0 a := c0.tr (cm.wk (Nat.le_refl 0) (Nat.le_add_right a 125))
      have oTx := oTx.cr cm (Nat.zero_le _) (Nat.add_le_add_left (by decide : 3 ≤ 125) a)
      have oPt := oPt.cr cm (Nat.zero_le _) (Nat.add_le_add_left (by decide : 8 ≤ 125) a)
      have oRd := oRd.cr cm (Nat.zero_le _) (Nat.add_le_add_left (by decide : 37 ≤ 125) a)
      have oPr := oPr.cr cm (Nat.zero_le _) (Nat.add_le_add_left (by decide : 17 ≤ 125) a)
      have oSt := oSt.cr cm (Nat.zero_le _) (Nat.add_le_add_left (by decide : 42 ≤ 125) a)
      have oDr := oDr.cr cm (Nat.zero_le _) (Nat.add_le_add_left (by decide : 47 ≤ 125) a)
      have oHi := oHi.cr cm (Nat.zero_le _) (Nat.add_le_add_left (by decide : 119 ≤ 125) a)
      have oS0 := oS0.cr cm (Nat.zero_le _) (Nat.add_le_add_left (by decide : 125 ≤ 125) a)
      have rRd := cm.r rRd (Nat.zero_le _) (Nat.add_lt_add_left (by decide : 8 < 125) a)
      have rSt := cm.r rSt (Nat.zero_le _) (Nat.add_lt_add_left (by decide : 37 < 125) a)
      have rDr := cm.r rDr (Nat.zero_le _) (Nat.add_lt_add_left (by decide : 42 < 125) a)
      have rS0 := cm.r rS0 (Nat.zero_le _) (Nat.add_lt_add_left (by decide : 120 < 125) a)
      have rq0 := cm.r rq0 (Nat.zero_le _) (Nat.add_lt_add_left (by decide : 119 < 125) a)
      have gSl := cm.tg gSl (Nat.zero_le _) (Nat.add_lt_add_left (by decide : 119 < 125) a)
      have lSl := (cm (a + 119) (Nat.zero_le _) (Nat.add_lt_add_left (by decide : 119 < 125) a)).2.1.trans lSl
      have rh : ∀ j, j < 14 → mx_rf (K21) (a + 49 + 5 * j) 6 = a + 3 := fun j hj => cm.r (rh j hj) (nh1 j 0 (Or.inl rfl)) (nh2 j 125 hj (by decide))
      have gSn : mx_tg K21 (a + 125) = 6 + 10 := oS1.1
      refine mx_aast (ci := 6) 1 dX9_init_113 (by assumption) (by decide) ⟨rfl, by rw [lSl]; decide, by rw [lSl]; decide⟩ (by assumption) ?_
      have cu : mx_cr (K21) (mx_uR K21 (a + 119) 1 (a + 125)) 0 (a + 119) := (mx_cr.rf _ 0 (a + 119)).uR _ _ _ (Or.inr (Nat.le_refl _))
      have cv : mx_cr (K21) (mx_uR K21 (a + 119) 1 (a + 125)) (a + 120) (a + 130) := (mx_cr.rf _ (a + 120) (a + 130)).uR _ _ _ (Or.inl (Nat.lt_succ_self _))
      have f0 := cu.r f0 (Nat.zero_le _) (Nat.lt_add_of_pos_right (by decide : 0 < 119))
      have f1 := cu.r f1 (Nat.zero_le _) (Nat.lt_add_of_pos_right (by decide : 0 < 119))
      have f2 := cu.r f2 (Nat.zero_le _) (Nat.lt_add_of_pos_right (by decide : 0 < 119))
      have f3 := cu.r f3 (Nat.zero_le _) (Nat.lt_add_of_pos_right (by decide : 0 < 119))
      have f4 := cu.r f4 (Nat.zero_le _) (Nat.lt_add_of_pos_right (by decide : 0 < 119))
      have f5 := cu.r f5 (Nat.zero_le _) (Nat.lt_add_of_pos_right (by decide : 0 < 119))
      have f6 := cu.r f6 (Nat.zero_le _) (Nat.lt_add_of_pos_right (by decide : 0 < 119))
      have oTx := oTx.cr cu (Nat.zero_le _) (Nat.add_le_add_left (by decide : 3 ≤ 119) a)
      have oPt := oPt.cr cu (Nat.zero_le _) (Nat.add_le_add_left (by decide : 8 ≤ 119) a)
      have oRd := oRd.cr cu (Nat.zero_le _) (Nat.add_le_add_left (by decide : 37 ≤ 119) a)
      have oPr := oPr.cr cu (Nat.zero_le _) (Nat.add_le_add_left (by decide : 17 ≤ 119) a)
      have oSt := oSt.cr cu (Nat.zero_le _) (Nat.add_le_add_left (by decide : 42 ≤ 119) a)
      have oDr := oDr.cr cu (Nat.zero_le _) (Nat.add_le_add_left (by decide : 47 ≤ 119) a)
      have oHi := oHi.cr cu (Nat.zero_le _) (Nat.add_le_add_left (by decide : 119 ≤ 119) a)
      have rRd := cu.r rRd (Nat.zero_le _) (Nat.add_lt_add_left (by decide : 8 < 119) a)
      have rSt := cu.r rSt (Nat.zero_le _) (Nat.add_lt_add_left (by decide : 37 < 119) a)
      have rDr := cu.r rDr (Nat.zero_le _) (Nat.add_lt_add_left (by decide : 42 < 119) a)
      have rh : ∀ j, j < 14 → mx_rf (mx_uR K21 (a + 119) 1 (a + 125)) (a + 49 + 5 * j) 6 = a + 3 := fun j hj => cu.r (rh j hj) (nh1 j 0 (Or.inl rfl)) (nh2 j 119 hj (by decide))
      have oS0 := oS0.cr cv (Nat.add_le_add_left (by decide : 120 ≤ 120) a) (Nat.add_le_add_left (by decide : 125 ≤ 130) a)
      have oS1 := oS1.cr cv (Nat.add_le_add_left (by decide : 120 ≤ 125) a) (Nat.add_le_add_left (by decide : 130 ≤ 130) a)
      have rS0 := cv.r rS0 (Nat.add_le_add_left (by decide : 120 ≤ 120) a) (Nat.add_lt_add_left (by decide : 120 < 130) a)
      have rS1 := cv.r rS1 (Nat.add_le_add_left (by decide : 120 ≤ 125) a) (Nat.add_lt_add_left (by decide : 125 < 130) a)
      have rq0 : mx_rf (mx_uR K21 (a + 119) 1 (a + 125)) (a + 119) 0 = a + 120 := by rw [mx_rf_uR, if_neg (fun h => absurd h.2 (by decide))]; exact rq0
      have rq1 : mx_rf (mx_uR K21 (a + 119) 1 (a + 125)) (a + 119) 1 = a + 125 := by rw [mx_rf_uR, if_pos ⟨rfl, rfl⟩]
      have gSl : mx_tg (mx_uR K21 (a + 119) 1 (a + 125)) (a + 119) = 5 := gSl
      have lSl : mx_ln (mx_uR K21 (a + 119) 1 (a + 125)) (a + 119) = 2 := lSl
      have gthis : mx_tg (mx_uR K21 (a + 119) 1 (a + 125)) a = 19 := gthis
      have zz : mx_sz (mx_uR K21 (a + 119) 1 (a + 125)) = a + 130 := zz
      have c0 : mx_cr G (mx_uR K21 (a + 119) 1 (a + 125)) 0 a := c0.uR _ _ _ (Or.inr (Nat.le_add_right a 119))
      refine mx_iincE (i := 1) (ls' := [some (.ref a), some (.int (nI 2))]) 1 dX9_init_114 rfl (by decide) (by decide) rfl rfl ?_
      refine mx_goto (tgt := 92) dX9_init_117 (by decide) ?_
      refine mx_iload_n (i := 1) (hi := rfl) (hl := rfl) (hd := dX9_init_92) ?_
      refine mx_iconstN 2 dX9_init_93 (by decide) ?_
      refine mx_cmpN_ge 120 dX9_init_94 (by decide) (by omega) (by omega) (fun c94 => ?_) (fun c94 => ?_)
      · skip
        refine mx_aload_n (i := 0) (hi := rfl) (hl := rfl) (hd := dX9_init_120) ?_
        refine mx_iconstN 2 dX9_init_121 (by decide) ?_
        refine mx_newaE (bc := 15) (bs := 469) (t := 3) (n := 2) (a := (a + 130)) (by first | rfl | omega) (by first | rfl | omega) dX9_init_122 rfl (by decide) k_ac_boolean rfl (by decide) (zz) ?_
        have cm : mx_cr (mx_uR K21 (a + 119) 1 (a + 125)) (mx_nw (mx_uR K21 (a + 119) 1 (a + 125)) 3 2) 0 (a + 130) := (mx_cr.rf _ 0 (a + 130)).nw _ _ (Nat.le_of_eq zz.symm)
        have f0 := cm.r f0 (Nat.zero_le _) (Nat.lt_add_of_pos_right (by decide : 0 < 130))
        have f1 := cm.r f1 (Nat.zero_le _) (Nat.lt_add_of_pos_right (by decide : 0 < 130))
        have f2 := cm.r f2 (Nat.zero_le _) (Nat.lt_add_of_pos_right (by decide : 0 < 130))
        have f3 := cm.r f3 (Nat.zero_le _) (Nat.lt_add_of_pos_right (by decide : 0 < 130))
        have f4 := cm.r f4 (Nat.zero_le _) (Nat.lt_add_of_pos_right (by decide : 0 < 130))
        have f5 := cm.r f5 (Nat.zero_le _) (Nat.lt_add_of_pos_right (by decide : 0 < 130))
        have f6 := cm.r f6 (Nat.zero_le _) (Nat.lt_add_of_pos_right (by decide : 0 < 130))
        have oTx := oTx.cr cm (Nat.zero_le _) (Nat.add_le_add_left (by decide : 3 ≤ 130) a)
        have oPt := oPt.cr cm (Nat.zero_le _) (Nat.add_le_add_left (by decide : 8 ≤ 130) a)
        have oRd := oRd.cr cm (Nat.zero_le _) (Nat.add_le_add_left (by decide : 37 ≤ 130) a)
        have oPr := oPr.cr cm (Nat.zero_le _) (Nat.add_le_add_left (by decide : 17 ≤ 130) a)
        have oSt := oSt.cr cm (Nat.zero_le _) (Nat.add_le_add_left (by decide : 42 ≤ 130) a)
        have oDr := oDr.cr cm (Nat.zero_le _) (Nat.add_le_add_left (by decide : 47 ≤ 130) a)
        have oHi := oHi.cr cm (Nat.zero_le _) (Nat.add_le_add_left (by decide : 119 ≤ 130) a)
        have oS0 := oS0.cr cm (Nat.zero_le _) (Nat.add_le_add_left (by decide : 125 ≤ 130) a)
        have oS1 := oS1.cr cm (Nat.zero_le _) (Nat.add_le_add_left (by decide : 130 ≤ 130) a)
        have rRd := cm.r rRd (Nat.zero_le _) (Nat.add_lt_add_left (by decide : 8 < 130) a)
        have rSt := cm.r rSt (Nat.zero_le _) (Nat.add_lt_add_left (by decide : 37 < 130) a)
        have rDr := cm.r rDr (Nat.zero_le _) (Nat.add_lt_add_left (by decide : 42 < 130) a)
        have rS0 := cm.r rS0 (Nat.zero_le _) (Nat.add_lt_add_left (by decide : 120 < 130) a)
        have rq0 := cm.r rq0 (Nat.zero_le _) (Nat.add_lt_add_left (by decide : 119 < 130) a)
        have rS1 := cm.r rS1 (Nat.zero_le _) (Nat.add_lt_add_left (by decide : 125 < 130) a)
        have rq1 := cm.r rq1 (Nat.zero_le _) (Nat.add_lt_add_left (by decide : 119 < 130) a)
        have gSl := cm.tg gSl (Nat.zero_le _) (Nat.add_lt_add_left (by decide : 119 < 130) a)
        have lSl := (cm (a + 119) (Nat.zero_le _) (Nat.add_lt_add_left (by decide : 119 < 130) a)).2.1.trans lSl
        have rh : ∀ j, j < 14 → mx_rf (mx_nw (mx_uR K21 (a + 119) 1 (a + 125)) 3 2) (a + 49 + 5 * j) 6 = a + 3 := fun j hj => cm.r (rh j hj) (nh1 j 0 (Or.inl rfl)) (nh2 j 130 hj (by decide))
        have gFi : mx_tg (mx_nw (mx_uR K21 (a + 119) 1 (a + 125)) 3 2) (a + 130) = 3 := by rw [mx_tg_nw, if_pos zz.symm]
        have lFi : mx_ln (mx_nw (mx_uR K21 (a + 119) 1 (a + 125)) 3 2) (a + 130) = 2 := by rw [mx_ln_nw, if_pos zz.symm]
        have gthis := cm.tg gthis (Nat.zero_le _) (Nat.lt_add_of_pos_right (by decide : 0 < 130))
        have c0 : mx_cr G (mx_nw (mx_uR K21 (a + 119) 1 (a + 125)) 3 2) 0 a := c0.tr (cm.wk (Nat.le_refl 0) (Nat.le_add_right a 130))
        have zz : mx_sz (mx_nw (mx_uR K21 (a + 119) 1 (a + 125)) 3 2) = a + 131 := by rw [mx_sz_nw, zz]
        refine mx_putF (ci := 9) (k := 7) dX9_init_124 k_303 (by decide) rfl rfl rfl rfl (by assumption) (by rw [gFi]; decide) ?_
        have cu : mx_cr (mx_nw (mx_uR K21 (a + 119) 1 (a + 125)) 3 2) (mx_uR (mx_nw (mx_uR K21 (a + 119) 1 (a + 125)) 3 2) a 7 (a + 130)) (a + 1) (a + 131) := (mx_cr.rf _ (a + 1) (a + 131)).uR _ _ _ (Or.inl (Nat.lt_succ_self a))
        have f0 : mx_rf (mx_uR (mx_nw (mx_uR K21 (a + 119) 1 (a + 125)) 3 2) a 7 (a + 130)) a 0 = a + 1 := by rw [mx_rf_uR, if_neg (fun h => absurd h.2 (by decide))]; exact f0
        have f1 : mx_rf (mx_uR (mx_nw (mx_uR K21 (a + 119) 1 (a + 125)) 3 2) a 7 (a + 130)) a 1 = a + 3 := by rw [mx_rf_uR, if_neg (fun h => absurd h.2 (by decide))]; exact f1
        have f2 : mx_rf (mx_uR (mx_nw (mx_uR K21 (a + 119) 1 (a + 125)) 3 2) a 7 (a + 130)) a 2 = a + 8 := by rw [mx_rf_uR, if_neg (fun h => absurd h.2 (by decide))]; exact f2
        have f3 : mx_rf (mx_uR (mx_nw (mx_uR K21 (a + 119) 1 (a + 125)) 3 2) a 7 (a + 130)) a 3 = a + 37 := by rw [mx_rf_uR, if_neg (fun h => absurd h.2 (by decide))]; exact f3
        have f4 : mx_rf (mx_uR (mx_nw (mx_uR K21 (a + 119) 1 (a + 125)) 3 2) a 7 (a + 130)) a 4 = a + 42 := by rw [mx_rf_uR, if_neg (fun h => absurd h.2 (by decide))]; exact f4
        have f5 : mx_rf (mx_uR (mx_nw (mx_uR K21 (a + 119) 1 (a + 125)) 3 2) a 7 (a + 130)) a 5 = a + 47 := by rw [mx_rf_uR, if_neg (fun h => absurd h.2 (by decide))]; exact f5
        have f6 : mx_rf (mx_uR (mx_nw (mx_uR K21 (a + 119) 1 (a + 125)) 3 2) a 7 (a + 130)) a 6 = a + 119 := by rw [mx_rf_uR, if_neg (fun h => absurd h.2 (by decide))]; exact f6
        have f7 : mx_rf (mx_uR (mx_nw (mx_uR K21 (a + 119) 1 (a + 125)) 3 2) a 7 (a + 130)) a 7 = a + 130 := by rw [mx_rf_uR, if_pos ⟨rfl, rfl⟩]
        have oTx := oTx.cr cu (Nat.add_le_add_left (by decide : 1 ≤ 1) a) (Nat.add_le_add_left (by decide : 3 ≤ 131) a)
        have oPt := oPt.cr cu (Nat.add_le_add_left (by decide : 1 ≤ 3) a) (Nat.add_le_add_left (by decide : 8 ≤ 131) a)
        have oRd := oRd.cr cu (Nat.add_le_add_left (by decide : 1 ≤ 8) a) (Nat.add_le_add_left (by decide : 37 ≤ 131) a)
        have oPr := oPr.cr cu (Nat.add_le_add_left (by decide : 1 ≤ 12) a) (Nat.add_le_add_left (by decide : 17 ≤ 131) a)
        have oSt := oSt.cr cu (Nat.add_le_add_left (by decide : 1 ≤ 37) a) (Nat.add_le_add_left (by decide : 42 ≤ 131) a)
        have oDr := oDr.cr cu (Nat.add_le_add_left (by decide : 1 ≤ 42) a) (Nat.add_le_add_left (by decide : 47 ≤ 131) a)
        have oHi := oHi.cr cu (Nat.add_le_add_left (by decide : 1 ≤ 47) a) (Nat.add_le_add_left (by decide : 119 ≤ 131) a)
        have oS0 := oS0.cr cu (Nat.add_le_add_left (by decide : 1 ≤ 120) a) (Nat.add_le_add_left (by decide : 125 ≤ 131) a)
        have oS1 := oS1.cr cu (Nat.add_le_add_left (by decide : 1 ≤ 125) a) (Nat.add_le_add_left (by decide : 130 ≤ 131) a)
        have rRd := cu.r rRd (Nat.add_le_add_left (by decide : 1 ≤ 8) a) (Nat.add_lt_add_left (by decide : 8 < 131) a)
        have rSt := cu.r rSt (Nat.add_le_add_left (by decide : 1 ≤ 37) a) (Nat.add_lt_add_left (by decide : 37 < 131) a)
        have rDr := cu.r rDr (Nat.add_le_add_left (by decide : 1 ≤ 42) a) (Nat.add_lt_add_left (by decide : 42 < 131) a)
        have rS0 := cu.r rS0 (Nat.add_le_add_left (by decide : 1 ≤ 120) a) (Nat.add_lt_add_left (by decide : 120 < 131) a)
        have rq0 := cu.r rq0 (Nat.add_le_add_left (by decide : 1 ≤ 119) a) (Nat.add_lt_add_left (by decide : 119 < 131) a)
        have rS1 := cu.r rS1 (Nat.add_le_add_left (by decide : 1 ≤ 125) a) (Nat.add_lt_add_left (by decide : 125 < 131) a)
        have rq1 := cu.r rq1 (Nat.add_le_add_left (by decide : 1 ≤ 119) a) (Nat.add_lt_add_left (by decide : 119 < 131) a)
        have gSl := cu.tg gSl (Nat.add_le_add_left (by decide : 1 ≤ 119) a) (Nat.add_lt_add_left (by decide : 119 < 131) a)
        have lSl := (cu (a + 119) (Nat.add_le_add_left (by decide : 1 ≤ 119) a) (Nat.add_lt_add_left (by decide : 119 < 131) a)).2.1.trans lSl
        have gFi := cu.tg gFi (Nat.add_le_add_left (by decide : 1 ≤ 130) a) (Nat.add_lt_add_left (by decide : 130 < 131) a)
        have lFi := (cu (a + 130) (Nat.add_le_add_left (by decide : 1 ≤ 130) a) (Nat.add_lt_add_left (by decide : 130 < 131) a)).2.1.trans lFi
        have rh : ∀ j, j < 14 → mx_rf (mx_uR (mx_nw (mx_uR K21 (a + 119) 1 (a + 125)) 3 2) a 7 (a + 130)) (a + 49 + 5 * j) 6 = a + 3 := fun j hj => cu.r (rh j hj) (nh1 j (a + 1) (Or.inr (Nat.add_le_add_left (by decide : 1 ≤ 49) a))) (nh2 j 131 hj (by decide))
        have gthis : mx_tg (mx_uR (mx_nw (mx_uR K21 (a + 119) 1 (a + 125)) 3 2) a 7 (a + 130)) a = 19 := gthis
        have zz : mx_sz (mx_uR (mx_nw (mx_uR K21 (a + 119) 1 (a + 125)) 3 2) a 7 (a + 130)) = a + 131 := zz
        have c0 : mx_cr G (mx_uR (mx_nw (mx_uR K21 (a + 119) 1 (a + 125)) 3 2) a 7 (a + 130)) 0 a := c0.uR _ _ _ (Or.inr (Nat.le_refl a))
        refine mx_aload_n (i := 0) (hi := rfl) (hl := rfl) (hd := dX9_init_127) ?_
        refine mx_newE (bc := 14) (bs := 463) (ci := 5) (a := (a + 131)) (by first | rfl | omega) (by first | rfl | (show _ = _ + 6; omega)) dX9_init_128 k_230 nw_X5 (by decide) (zz) ?_
        have cn : mx_cr (mx_uR (mx_nw (mx_uR K21 (a + 119) 1 (a + 125)) 3 2) a 7 (a + 130)) (mx_nw (mx_uR (mx_nw (mx_uR K21 (a + 119) 1 (a + 125)) 3 2) a 7 (a + 130)) (5 + 10) 0) 0 (a + 131) := (mx_cr.rf _ 0 (a + 131)).nw _ _ (Nat.le_of_eq zz.symm)
        refine mx_dup (hva := rfl) (hd := dX9_init_131) ?_
        refine mx_callIN (bc := 10) (bs := 366) (As := []) (rest := [.ref (a + 131), .ref a]) (b1 := 4) (b2 := 97) dX9_init_132 (ct_newSearch (mx_nw (mx_uR (mx_nw (mx_uR K21 (a + 119) 1 (a + 125)) 3 2) a 7 (a + 130)) (5 + 10) 0) _ (a + 131) (by rw [mx_tg_nw, if_pos zz.symm]) (by rw [mx_sz_nw, zz])) km_X5_init rfl rfl rfl k_232 k_233 rfl rfl (Nat.le_of_ble_eq_true rfl) (by decide) (fun _ _ _ q => q.elim) (fun r17 K8 Ik8 h18 => ?_)
        obtain ⟨e1, e2, zz, c2, oSe⟩ := h18
        subst e1
        subst e2
        have cm : mx_cr (mx_uR (mx_nw (mx_uR K21 (a + 119) 1 (a + 125)) 3 2) a 7 (a + 130)) K8 0 (a + 131) := cn.tr c2
        have gthis := cm.tg gthis (Nat.zero_le _) (Nat.lt_add_of_pos_right (by decide : 0 < 131))
        have f0 := cm.r f0 (Nat.zero_le _) (Nat.lt_add_of_pos_right (by decide : 0 < 131))
        have f1 := cm.r f1 (Nat.zero_le _) (Nat.lt_add_of_pos_right (by decide : 0 < 131))
        have f2 := cm.r f2 (Nat.zero_le _) (Nat.lt_add_of_pos_right (by decide : 0 < 131))
        have f3 := cm.r f3 (Nat.zero_le _) (Nat.lt_add_of_pos_right (by decide : 0 < 131))
        have f4 := cm.r f4 (Nat.zero_le _) (Nat.lt_add_of_pos_right (by decide : 0 < 131))
        have f5 := cm.r f5 (Nat.zero_le _) (Nat.lt_add_of_pos_right (by decide : 0 < 131))
        have f6 := cm.r f6 (Nat.zero_le _) (Nat.lt_add_of_pos_right (by decide : 0 < 131))
        have f7 := cm.r f7 (Nat.zero_le _) (Nat.lt_add_of_pos_right (by decide : 0 < 131))
        have c0 : mx_cr G K8 0 a := c0.tr (cm.wk (Nat.le_refl 0) (Nat.le_add_right a 131))
        have oTx := oTx.cr cm (Nat.zero_le _) (Nat.add_le_add_left (by decide : 3 ≤ 131) a)
        have oPt := oPt.cr cm (Nat.zero_le _) (Nat.add_le_add_left (by decide : 8 ≤ 131) a)
        have oRd := oRd.cr cm (Nat.zero_le _) (Nat.add_le_add_left (by decide : 37 ≤ 131) a)
        have oPr := oPr.cr cm (Nat.zero_le _) (Nat.add_le_add_left (by decide : 17 ≤ 131) a)
        have oSt := oSt.cr cm (Nat.zero_le _) (Nat.add_le_add_left (by decide : 42 ≤ 131) a)
        have oDr := oDr.cr cm (Nat.zero_le _) (Nat.add_le_add_left (by decide : 47 ≤ 131) a)
        have oHi := oHi.cr cm (Nat.zero_le _) (Nat.add_le_add_left (by decide : 119 ≤ 131) a)
        have oS0 := oS0.cr cm (Nat.zero_le _) (Nat.add_le_add_left (by decide : 125 ≤ 131) a)
        have oS1 := oS1.cr cm (Nat.zero_le _) (Nat.add_le_add_left (by decide : 130 ≤ 131) a)
        have rRd := cm.r rRd (Nat.zero_le _) (Nat.add_lt_add_left (by decide : 8 < 131) a)
        have rSt := cm.r rSt (Nat.zero_le _) (Nat.add_lt_add_left (by decide : 37 < 131) a)
        have rDr := cm.r rDr (Nat.zero_le _) (Nat.add_lt_add_left (by decide : 42 < 131) a)
        have rS0 := cm.r rS0 (Nat.zero_le _) (Nat.add_lt_add_left (by decide : 120 < 131) a)
        have rq0 := cm.r rq0 (Nat.zero_le _) (Nat.add_lt_add_left (by decide : 119 < 131) a)
        have rS1 := cm.r rS1 (Nat.zero_le _) (Nat.add_lt_add_left (by decide : 125 < 131) a)
        have rq1 := cm.r rq1 (Nat.zero_le _) (Nat.add_lt_add_left (by decide : 119 < 131) a)
        have gSl := cm.tg gSl (Nat.zero_le _) (Nat.add_lt_add_left (by decide : 119 < 131) a)
        have lSl := (cm (a + 119) (Nat.zero_le _) (Nat.add_lt_add_left (by decide : 119 < 131) a)).2.1.trans lSl
        have gFi := cm.tg gFi (Nat.zero_le _) (Nat.add_lt_add_left (by decide : 130 < 131) a)
        have lFi := (cm (a + 130) (Nat.zero_le _) (Nat.add_lt_add_left (by decide : 130 < 131) a)).2.1.trans lFi
        have rh : ∀ j, j < 14 → mx_rf (K8) (a + 49 + 5 * j) 6 = a + 3 := fun j hj => cm.r (rh j hj) (nh1 j 0 (Or.inl rfl)) (nh2 j 131 hj (by decide))
        refine mx_putF (ci := 9) (k := 8) dX9_init_135 k_304 (by decide) rfl rfl rfl rfl (by assumption) (by rw [oSe.1]; decide) ?_
        have cu : mx_cr (K8) (mx_uR K8 a 8 (a + 131)) (a + 1) (a + 136) := (mx_cr.rf _ (a + 1) (a + 136)).uR _ _ _ (Or.inl (Nat.lt_succ_self a))
        have f0 : mx_rf (mx_uR K8 a 8 (a + 131)) a 0 = a + 1 := by rw [mx_rf_uR, if_neg (fun h => absurd h.2 (by decide))]; exact f0
        have f1 : mx_rf (mx_uR K8 a 8 (a + 131)) a 1 = a + 3 := by rw [mx_rf_uR, if_neg (fun h => absurd h.2 (by decide))]; exact f1
        have f2 : mx_rf (mx_uR K8 a 8 (a + 131)) a 2 = a + 8 := by rw [mx_rf_uR, if_neg (fun h => absurd h.2 (by decide))]; exact f2
        have f3 : mx_rf (mx_uR K8 a 8 (a + 131)) a 3 = a + 37 := by rw [mx_rf_uR, if_neg (fun h => absurd h.2 (by decide))]; exact f3
        have f4 : mx_rf (mx_uR K8 a 8 (a + 131)) a 4 = a + 42 := by rw [mx_rf_uR, if_neg (fun h => absurd h.2 (by decide))]; exact f4
        have f5 : mx_rf (mx_uR K8 a 8 (a + 131)) a 5 = a + 47 := by rw [mx_rf_uR, if_neg (fun h => absurd h.2 (by decide))]; exact f5
        have f6 : mx_rf (mx_uR K8 a 8 (a + 131)) a 6 = a + 119 := by rw [mx_rf_uR, if_neg (fun h => absurd h.2 (by decide))]; exact f6
        have f7 : mx_rf (mx_uR K8 a 8 (a + 131)) a 7 = a + 130 := by rw [mx_rf_uR, if_neg (fun h => absurd h.2 (by decide))]; exact f7
        have f8 : mx_rf (mx_uR K8 a 8 (a + 131)) a 8 = a + 131 := by rw [mx_rf_uR, if_pos ⟨rfl, rfl⟩]
        have oTx := oTx.cr cu (Nat.add_le_add_left (by decide : 1 ≤ 1) a) (Nat.add_le_add_left (by decide : 3 ≤ 136) a)
        have oPt := oPt.cr cu (Nat.add_le_add_left (by decide : 1 ≤ 3) a) (Nat.add_le_add_left (by decide : 8 ≤ 136) a)
        have oRd := oRd.cr cu (Nat.add_le_add_left (by decide : 1 ≤ 8) a) (Nat.add_le_add_left (by decide : 37 ≤ 136) a)
        have oPr := oPr.cr cu (Nat.add_le_add_left (by decide : 1 ≤ 12) a) (Nat.add_le_add_left (by decide : 17 ≤ 136) a)
        have oSt := oSt.cr cu (Nat.add_le_add_left (by decide : 1 ≤ 37) a) (Nat.add_le_add_left (by decide : 42 ≤ 136) a)
        have oDr := oDr.cr cu (Nat.add_le_add_left (by decide : 1 ≤ 42) a) (Nat.add_le_add_left (by decide : 47 ≤ 136) a)
        have oHi := oHi.cr cu (Nat.add_le_add_left (by decide : 1 ≤ 47) a) (Nat.add_le_add_left (by decide : 119 ≤ 136) a)
        have oS0 := oS0.cr cu (Nat.add_le_add_left (by decide : 1 ≤ 120) a) (Nat.add_le_add_left (by decide : 125 ≤ 136) a)
        have oS1 := oS1.cr cu (Nat.add_le_add_left (by decide : 1 ≤ 125) a) (Nat.add_le_add_left (by decide : 130 ≤ 136) a)
        have oSe := oSe.cr cu (Nat.add_le_add_left (by decide : 1 ≤ 131) a) (Nat.add_le_add_left (by decide : 136 ≤ 136) a)
        have rRd := cu.r rRd (Nat.add_le_add_left (by decide : 1 ≤ 8) a) (Nat.add_lt_add_left (by decide : 8 < 136) a)
        have rSt := cu.r rSt (Nat.add_le_add_left (by decide : 1 ≤ 37) a) (Nat.add_lt_add_left (by decide : 37 < 136) a)
        have rDr := cu.r rDr (Nat.add_le_add_left (by decide : 1 ≤ 42) a) (Nat.add_lt_add_left (by decide : 42 < 136) a)
        have rS0 := cu.r rS0 (Nat.add_le_add_left (by decide : 1 ≤ 120) a) (Nat.add_lt_add_left (by decide : 120 < 136) a)
        have rq0 := cu.r rq0 (Nat.add_le_add_left (by decide : 1 ≤ 119) a) (Nat.add_lt_add_left (by decide : 119 < 136) a)
        have rS1 := cu.r rS1 (Nat.add_le_add_left (by decide : 1 ≤ 125) a) (Nat.add_lt_add_left (by decide : 125 < 136) a)
        have rq1 := cu.r rq1 (Nat.add_le_add_left (by decide : 1 ≤ 119) a) (Nat.add_lt_add_left (by decide : 119 < 136) a)
        have gSl := cu.tg gSl (Nat.add_le_add_left (by decide : 1 ≤ 119) a) (Nat.add_lt_add_left (by decide : 119 < 136) a)
        have lSl := (cu (a + 119) (Nat.add_le_add_left (by decide : 1 ≤ 119) a) (Nat.add_lt_add_left (by decide : 119 < 136) a)).2.1.trans lSl
        have gFi := cu.tg gFi (Nat.add_le_add_left (by decide : 1 ≤ 130) a) (Nat.add_lt_add_left (by decide : 130 < 136) a)
        have lFi := (cu (a + 130) (Nat.add_le_add_left (by decide : 1 ≤ 130) a) (Nat.add_lt_add_left (by decide : 130 < 136) a)).2.1.trans lFi
        have rh : ∀ j, j < 14 → mx_rf (mx_uR K8 a 8 (a + 131)) (a + 49 + 5 * j) 6 = a + 3 := fun j hj => cu.r (rh j hj) (nh1 j (a + 1) (Or.inr (Nat.add_le_add_left (by decide : 1 ≤ 49) a))) (nh2 j 136 hj (by decide))
        have gthis : mx_tg (mx_uR K8 a 8 (a + 131)) a = 19 := gthis
        have zz : mx_sz (mx_uR K8 a 8 (a + 131)) = a + 136 := zz
        have c0 : mx_cr G (mx_uR K8 a 8 (a + 131)) 0 a := c0.uR _ _ _ (Or.inr (Nat.le_refl a))
        refine mx_aload_n (i := 0) (hi := rfl) (hl := rfl) (hd := dX9_init_138) ?_
        refine mx_newE (bc := 9) (bs := 360) (ci := 5) (a := (a + 136)) (by first | rfl | omega) (by first | rfl | (show _ = _ + 6; omega)) dX9_init_139 k_230 nw_X5 (by decide) (zz) ?_
        have cn : mx_cr (mx_uR K8 a 8 (a + 131)) (mx_nw (mx_uR K8 a 8 (a + 131)) (5 + 10) 0) 0 (a + 136) := (mx_cr.rf _ 0 (a + 136)).nw _ _ (Nat.le_of_eq zz.symm)
        refine mx_dup (hva := rfl) (hd := dX9_init_142) ?_
        refine mx_callIN (bc := 5) (bs := 263) (As := []) (rest := [.ref (a + 136), .ref a]) (b1 := 4) (b2 := 97) dX9_init_143 (ct_newSearch (mx_nw (mx_uR K8 a 8 (a + 131)) (5 + 10) 0) _ (a + 136) (by rw [mx_tg_nw, if_pos zz.symm]) (by rw [mx_sz_nw, zz])) km_X5_init rfl rfl rfl k_232 k_233 rfl rfl (Nat.le_of_ble_eq_true rfl) (by decide) (fun _ _ _ q => q.elim) (fun r19 K9 Ik9 h20 => ?_)
        obtain ⟨e1, e2, zz, c2, oTr⟩ := h20
        subst e1
        subst e2
        have cm : mx_cr (mx_uR K8 a 8 (a + 131)) K9 0 (a + 136) := cn.tr c2
        have gthis := cm.tg gthis (Nat.zero_le _) (Nat.lt_add_of_pos_right (by decide : 0 < 136))
        have f0 := cm.r f0 (Nat.zero_le _) (Nat.lt_add_of_pos_right (by decide : 0 < 136))
        have f1 := cm.r f1 (Nat.zero_le _) (Nat.lt_add_of_pos_right (by decide : 0 < 136))
        have f2 := cm.r f2 (Nat.zero_le _) (Nat.lt_add_of_pos_right (by decide : 0 < 136))
        have f3 := cm.r f3 (Nat.zero_le _) (Nat.lt_add_of_pos_right (by decide : 0 < 136))
        have f4 := cm.r f4 (Nat.zero_le _) (Nat.lt_add_of_pos_right (by decide : 0 < 136))
        have f5 := cm.r f5 (Nat.zero_le _) (Nat.lt_add_of_pos_right (by decide : 0 < 136))
        have f6 := cm.r f6 (Nat.zero_le _) (Nat.lt_add_of_pos_right (by decide : 0 < 136))
        have f7 := cm.r f7 (Nat.zero_le _) (Nat.lt_add_of_pos_right (by decide : 0 < 136))
        have f8 := cm.r f8 (Nat.zero_le _) (Nat.lt_add_of_pos_right (by decide : 0 < 136))
        have c0 : mx_cr G K9 0 a := c0.tr (cm.wk (Nat.le_refl 0) (Nat.le_add_right a 136))
        have oTx := oTx.cr cm (Nat.zero_le _) (Nat.add_le_add_left (by decide : 3 ≤ 136) a)
        have oPt := oPt.cr cm (Nat.zero_le _) (Nat.add_le_add_left (by decide : 8 ≤ 136) a)
        have oRd := oRd.cr cm (Nat.zero_le _) (Nat.add_le_add_left (by decide : 37 ≤ 136) a)
        have oPr := oPr.cr cm (Nat.zero_le _) (Nat.add_le_add_left (by decide : 17 ≤ 136) a)
        have oSt := oSt.cr cm (Nat.zero_le _) (Nat.add_le_add_left (by decide : 42 ≤ 136) a)
        have oDr := oDr.cr cm (Nat.zero_le _) (Nat.add_le_add_left (by decide : 47 ≤ 136) a)
        have oHi := oHi.cr cm (Nat.zero_le _) (Nat.add_le_add_left (by decide : 119 ≤ 136) a)
        have oS0 := oS0.cr cm (Nat.zero_le _) (Nat.add_le_add_left (by decide : 125 ≤ 136) a)
        have oS1 := oS1.cr cm (Nat.zero_le _) (Nat.add_le_add_left (by decide : 130 ≤ 136) a)
        have oSe := oSe.cr cm (Nat.zero_le _) (Nat.add_le_add_left (by decide : 136 ≤ 136) a)
        have rRd := cm.r rRd (Nat.zero_le _) (Nat.add_lt_add_left (by decide : 8 < 136) a)
        have rSt := cm.r rSt (Nat.zero_le _) (Nat.add_lt_add_left (by decide : 37 < 136) a)
        have rDr := cm.r rDr (Nat.zero_le _) (Nat.add_lt_add_left (by decide : 42 < 136) a)
        have rS0 := cm.r rS0 (Nat.zero_le _) (Nat.add_lt_add_left (by decide : 120 < 136) a)
        have rq0 := cm.r rq0 (Nat.zero_le _) (Nat.add_lt_add_left (by decide : 119 < 136) a)
        have rS1 := cm.r rS1 (Nat.zero_le _) (Nat.add_lt_add_left (by decide : 125 < 136) a)
        have rq1 := cm.r rq1 (Nat.zero_le _) (Nat.add_lt_add_left (by decide : 119 < 136) a)
        have gSl := cm.tg gSl (Nat.zero_le _) (Nat.add_lt_add_left (by decide : 119 < 136) a)
        have lSl := (cm (a + 119) (Nat.zero_le _) (Nat.add_lt_add_left (by decide : 119 < 136) a)).2.1.trans lSl
        have gFi := cm.tg gFi (Nat.zero_le _) (Nat.add_lt_add_left (by decide : 130 < 136) a)
        have lFi := (cm (a + 130) (Nat.zero_le _) (Nat.add_lt_add_left (by decide : 130 < 136) a)).2.1.trans lFi
        have rh : ∀ j, j < 14 → mx_rf (K9) (a + 49 + 5 * j) 6 = a + 3 := fun j hj => cm.r (rh j hj) (nh1 j 0 (Or.inl rfl)) (nh2 j 136 hj (by decide))
        refine mx_putF (ci := 9) (k := 9) dX9_init_146 k_305 (by decide) rfl rfl rfl rfl (by assumption) (by rw [oTr.1]; decide) ?_
        have cu : mx_cr (K9) (mx_uR K9 a 9 (a + 136)) (a + 1) (a + 141) := (mx_cr.rf _ (a + 1) (a + 141)).uR _ _ _ (Or.inl (Nat.lt_succ_self a))
        have f0 : mx_rf (mx_uR K9 a 9 (a + 136)) a 0 = a + 1 := by rw [mx_rf_uR, if_neg (fun h => absurd h.2 (by decide))]; exact f0
        have f1 : mx_rf (mx_uR K9 a 9 (a + 136)) a 1 = a + 3 := by rw [mx_rf_uR, if_neg (fun h => absurd h.2 (by decide))]; exact f1
        have f2 : mx_rf (mx_uR K9 a 9 (a + 136)) a 2 = a + 8 := by rw [mx_rf_uR, if_neg (fun h => absurd h.2 (by decide))]; exact f2
        have f3 : mx_rf (mx_uR K9 a 9 (a + 136)) a 3 = a + 37 := by rw [mx_rf_uR, if_neg (fun h => absurd h.2 (by decide))]; exact f3
        have f4 : mx_rf (mx_uR K9 a 9 (a + 136)) a 4 = a + 42 := by rw [mx_rf_uR, if_neg (fun h => absurd h.2 (by decide))]; exact f4
        have f5 : mx_rf (mx_uR K9 a 9 (a + 136)) a 5 = a + 47 := by rw [mx_rf_uR, if_neg (fun h => absurd h.2 (by decide))]; exact f5
        have f6 : mx_rf (mx_uR K9 a 9 (a + 136)) a 6 = a + 119 := by rw [mx_rf_uR, if_neg (fun h => absurd h.2 (by decide))]; exact f6
        have f7 : mx_rf (mx_uR K9 a 9 (a + 136)) a 7 = a + 130 := by rw [mx_rf_uR, if_neg (fun h => absurd h.2 (by decide))]; exact f7
        have f8 : mx_rf (mx_uR K9 a 9 (a + 136)) a 8 = a + 131 := by rw [mx_rf_uR, if_neg (fun h => absurd h.2 (by decide))]; exact f8
        have f9 : mx_rf (mx_uR K9 a 9 (a + 136)) a 9 = a + 136 := by rw [mx_rf_uR, if_pos ⟨rfl, rfl⟩]
        have oTx := oTx.cr cu (Nat.add_le_add_left (by decide : 1 ≤ 1) a) (Nat.add_le_add_left (by decide : 3 ≤ 141) a)
        have oPt := oPt.cr cu (Nat.add_le_add_left (by decide : 1 ≤ 3) a) (Nat.add_le_add_left (by decide : 8 ≤ 141) a)
        have oRd := oRd.cr cu (Nat.add_le_add_left (by decide : 1 ≤ 8) a) (Nat.add_le_add_left (by decide : 37 ≤ 141) a)
        have oPr := oPr.cr cu (Nat.add_le_add_left (by decide : 1 ≤ 12) a) (Nat.add_le_add_left (by decide : 17 ≤ 141) a)
        have oSt := oSt.cr cu (Nat.add_le_add_left (by decide : 1 ≤ 37) a) (Nat.add_le_add_left (by decide : 42 ≤ 141) a)
        have oDr := oDr.cr cu (Nat.add_le_add_left (by decide : 1 ≤ 42) a) (Nat.add_le_add_left (by decide : 47 ≤ 141) a)
        have oHi := oHi.cr cu (Nat.add_le_add_left (by decide : 1 ≤ 47) a) (Nat.add_le_add_left (by decide : 119 ≤ 141) a)
        have oS0 := oS0.cr cu (Nat.add_le_add_left (by decide : 1 ≤ 120) a) (Nat.add_le_add_left (by decide : 125 ≤ 141) a)
        have oS1 := oS1.cr cu (Nat.add_le_add_left (by decide : 1 ≤ 125) a) (Nat.add_le_add_left (by decide : 130 ≤ 141) a)
        have oSe := oSe.cr cu (Nat.add_le_add_left (by decide : 1 ≤ 131) a) (Nat.add_le_add_left (by decide : 136 ≤ 141) a)
        have oTr := oTr.cr cu (Nat.add_le_add_left (by decide : 1 ≤ 136) a) (Nat.add_le_add_left (by decide : 141 ≤ 141) a)
        have rRd := cu.r rRd (Nat.add_le_add_left (by decide : 1 ≤ 8) a) (Nat.add_lt_add_left (by decide : 8 < 141) a)
        have rSt := cu.r rSt (Nat.add_le_add_left (by decide : 1 ≤ 37) a) (Nat.add_lt_add_left (by decide : 37 < 141) a)
        have rDr := cu.r rDr (Nat.add_le_add_left (by decide : 1 ≤ 42) a) (Nat.add_lt_add_left (by decide : 42 < 141) a)
        have rS0 := cu.r rS0 (Nat.add_le_add_left (by decide : 1 ≤ 120) a) (Nat.add_lt_add_left (by decide : 120 < 141) a)
        have rq0 := cu.r rq0 (Nat.add_le_add_left (by decide : 1 ≤ 119) a) (Nat.add_lt_add_left (by decide : 119 < 141) a)
        have rS1 := cu.r rS1 (Nat.add_le_add_left (by decide : 1 ≤ 125) a) (Nat.add_lt_add_left (by decide : 125 < 141) a)
        have rq1 := cu.r rq1 (Nat.add_le_add_left (by decide : 1 ≤ 119) a) (Nat.add_lt_add_left (by decide : 119 < 141) a)
        have gSl := cu.tg gSl (Nat.add_le_add_left (by decide : 1 ≤ 119) a) (Nat.add_lt_add_left (by decide : 119 < 141) a)
        have lSl := (cu (a + 119) (Nat.add_le_add_left (by decide : 1 ≤ 119) a) (Nat.add_lt_add_left (by decide : 119 < 141) a)).2.1.trans lSl
        have gFi := cu.tg gFi (Nat.add_le_add_left (by decide : 1 ≤ 130) a) (Nat.add_lt_add_left (by decide : 130 < 141) a)
        have lFi := (cu (a + 130) (Nat.add_le_add_left (by decide : 1 ≤ 130) a) (Nat.add_lt_add_left (by decide : 130 < 141) a)).2.1.trans lFi
        have rh : ∀ j, j < 14 → mx_rf (mx_uR K9 a 9 (a + 136)) (a + 49 + 5 * j) 6 = a + 3 := fun j hj => cu.r (rh j hj) (nh1 j (a + 1) (Or.inr (Nat.add_le_add_left (by decide : 1 ≤ 49) a))) (nh2 j 141 hj (by decide))
        have gthis : mx_tg (mx_uR K9 a 9 (a + 136)) a = 19 := gthis
        have zz : mx_sz (mx_uR K9 a 9 (a + 136)) = a + 141 := zz
        have c0 : mx_cr G (mx_uR K9 a 9 (a + 136)) 0 a := c0.uR _ _ _ (Or.inr (Nat.le_refl a))
        refine mx_aload_n (i := 0) (hi := rfl) (hl := rfl) (hd := dX9_init_149) ?_
        refine mx_newE (bc := 4) (bs := 257) (ci := 0) (a := (a + 141)) (by first | rfl | omega) (by first | rfl | (show _ = _ + 6; omega)) dX9_init_150 k_269 nw_X0 (by decide) (zz) ?_
        have cn : mx_cr (mx_uR K9 a 9 (a + 136)) (mx_nw (mx_uR K9 a 9 (a + 136)) (0 + 10) 0) 0 (a + 141) := (mx_cr.rf _ 0 (a + 141)).nw _ _ (Nat.le_of_eq zz.symm)
        refine mx_dup (hva := rfl) (hd := dX9_init_153) ?_
        refine mx_callIN (bc := 0) (bs := 0) (As := []) (rest := [.ref (a + 141), .ref a]) (b1 := 4) (b2 := 257) dX9_init_154 (ct_newBest (mx_nw (mx_uR K9 a 9 (a + 136)) (0 + 10) 0) _ (a + 141) (by rw [mx_tg_nw, if_pos zz.symm]) (by rw [mx_sz_nw, zz])) km_X0_init rfl rfl rfl k_271 k_272 rfl rfl (Nat.le_of_ble_eq_true rfl) (by decide) (fun _ _ _ q => q.elim) (fun r21 K10 Ik10 h22 => ?_)
        obtain ⟨e1, e2, zz, c2, oBp⟩ := h22
        subst e1
        subst e2
        have cm : mx_cr (mx_uR K9 a 9 (a + 136)) K10 0 (a + 141) := cn.tr c2
        have gthis := cm.tg gthis (Nat.zero_le _) (Nat.lt_add_of_pos_right (by decide : 0 < 141))
        have f0 := cm.r f0 (Nat.zero_le _) (Nat.lt_add_of_pos_right (by decide : 0 < 141))
        have f1 := cm.r f1 (Nat.zero_le _) (Nat.lt_add_of_pos_right (by decide : 0 < 141))
        have f2 := cm.r f2 (Nat.zero_le _) (Nat.lt_add_of_pos_right (by decide : 0 < 141))
        have f3 := cm.r f3 (Nat.zero_le _) (Nat.lt_add_of_pos_right (by decide : 0 < 141))
        have f4 := cm.r f4 (Nat.zero_le _) (Nat.lt_add_of_pos_right (by decide : 0 < 141))
        have f5 := cm.r f5 (Nat.zero_le _) (Nat.lt_add_of_pos_right (by decide : 0 < 141))
        have f6 := cm.r f6 (Nat.zero_le _) (Nat.lt_add_of_pos_right (by decide : 0 < 141))
        have f7 := cm.r f7 (Nat.zero_le _) (Nat.lt_add_of_pos_right (by decide : 0 < 141))
        have f8 := cm.r f8 (Nat.zero_le _) (Nat.lt_add_of_pos_right (by decide : 0 < 141))
        have f9 := cm.r f9 (Nat.zero_le _) (Nat.lt_add_of_pos_right (by decide : 0 < 141))
        have c0 : mx_cr G K10 0 a := c0.tr (cm.wk (Nat.le_refl 0) (Nat.le_add_right a 141))
        have oTx := oTx.cr cm (Nat.zero_le _) (Nat.add_le_add_left (by decide : 3 ≤ 141) a)
        have oPt := oPt.cr cm (Nat.zero_le _) (Nat.add_le_add_left (by decide : 8 ≤ 141) a)
        have oRd := oRd.cr cm (Nat.zero_le _) (Nat.add_le_add_left (by decide : 37 ≤ 141) a)
        have oPr := oPr.cr cm (Nat.zero_le _) (Nat.add_le_add_left (by decide : 17 ≤ 141) a)
        have oSt := oSt.cr cm (Nat.zero_le _) (Nat.add_le_add_left (by decide : 42 ≤ 141) a)
        have oDr := oDr.cr cm (Nat.zero_le _) (Nat.add_le_add_left (by decide : 47 ≤ 141) a)
        have oHi := oHi.cr cm (Nat.zero_le _) (Nat.add_le_add_left (by decide : 119 ≤ 141) a)
        have oS0 := oS0.cr cm (Nat.zero_le _) (Nat.add_le_add_left (by decide : 125 ≤ 141) a)
        have oS1 := oS1.cr cm (Nat.zero_le _) (Nat.add_le_add_left (by decide : 130 ≤ 141) a)
        have oSe := oSe.cr cm (Nat.zero_le _) (Nat.add_le_add_left (by decide : 136 ≤ 141) a)
        have oTr := oTr.cr cm (Nat.zero_le _) (Nat.add_le_add_left (by decide : 141 ≤ 141) a)
        have rRd := cm.r rRd (Nat.zero_le _) (Nat.add_lt_add_left (by decide : 8 < 141) a)
        have rSt := cm.r rSt (Nat.zero_le _) (Nat.add_lt_add_left (by decide : 37 < 141) a)
        have rDr := cm.r rDr (Nat.zero_le _) (Nat.add_lt_add_left (by decide : 42 < 141) a)
        have rS0 := cm.r rS0 (Nat.zero_le _) (Nat.add_lt_add_left (by decide : 120 < 141) a)
        have rq0 := cm.r rq0 (Nat.zero_le _) (Nat.add_lt_add_left (by decide : 119 < 141) a)
        have rS1 := cm.r rS1 (Nat.zero_le _) (Nat.add_lt_add_left (by decide : 125 < 141) a)
        have rq1 := cm.r rq1 (Nat.zero_le _) (Nat.add_lt_add_left (by decide : 119 < 141) a)
        have gSl := cm.tg gSl (Nat.zero_le _) (Nat.add_lt_add_left (by decide : 119 < 141) a)
        have lSl := (cm (a + 119) (Nat.zero_le _) (Nat.add_lt_add_left (by decide : 119 < 141) a)).2.1.trans lSl
        have gFi := cm.tg gFi (Nat.zero_le _) (Nat.add_lt_add_left (by decide : 130 < 141) a)
        have lFi := (cm (a + 130) (Nat.zero_le _) (Nat.add_lt_add_left (by decide : 130 < 141) a)).2.1.trans lFi
        have rh : ∀ j, j < 14 → mx_rf (K10) (a + 49 + 5 * j) 6 = a + 3 := fun j hj => cm.r (rh j hj) (nh1 j 0 (Or.inl rfl)) (nh2 j 141 hj (by decide))
        refine mx_putF (ci := 9) (k := 10) dX9_init_157 k_306 (by decide) rfl rfl rfl rfl (by assumption) (by rw [oBp.1]; decide) ?_
        have cu : mx_cr (K10) (mx_uR K10 a 10 (a + 141)) (a + 1) (a + 146) := (mx_cr.rf _ (a + 1) (a + 146)).uR _ _ _ (Or.inl (Nat.lt_succ_self a))
        have f0 : mx_rf (mx_uR K10 a 10 (a + 141)) a 0 = a + 1 := by rw [mx_rf_uR, if_neg (fun h => absurd h.2 (by decide))]; exact f0
        have f1 : mx_rf (mx_uR K10 a 10 (a + 141)) a 1 = a + 3 := by rw [mx_rf_uR, if_neg (fun h => absurd h.2 (by decide))]; exact f1
        have f2 : mx_rf (mx_uR K10 a 10 (a + 141)) a 2 = a + 8 := by rw [mx_rf_uR, if_neg (fun h => absurd h.2 (by decide))]; exact f2
        have f3 : mx_rf (mx_uR K10 a 10 (a + 141)) a 3 = a + 37 := by rw [mx_rf_uR, if_neg (fun h => absurd h.2 (by decide))]; exact f3
        have f4 : mx_rf (mx_uR K10 a 10 (a + 141)) a 4 = a + 42 := by rw [mx_rf_uR, if_neg (fun h => absurd h.2 (by decide))]; exact f4
        have f5 : mx_rf (mx_uR K10 a 10 (a + 141)) a 5 = a + 47 := by rw [mx_rf_uR, if_neg (fun h => absurd h.2 (by decide))]; exact f5
        have f6 : mx_rf (mx_uR K10 a 10 (a + 141)) a 6 = a + 119 := by rw [mx_rf_uR, if_neg (fun h => absurd h.2 (by decide))]; exact f6
        have f7 : mx_rf (mx_uR K10 a 10 (a + 141)) a 7 = a + 130 := by rw [mx_rf_uR, if_neg (fun h => absurd h.2 (by decide))]; exact f7
        have f8 : mx_rf (mx_uR K10 a 10 (a + 141)) a 8 = a + 131 := by rw [mx_rf_uR, if_neg (fun h => absurd h.2 (by decide))]; exact f8
        have f9 : mx_rf (mx_uR K10 a 10 (a + 141)) a 9 = a + 136 := by rw [mx_rf_uR, if_neg (fun h => absurd h.2 (by decide))]; exact f9
        have f10 : mx_rf (mx_uR K10 a 10 (a + 141)) a 10 = a + 141 := by rw [mx_rf_uR, if_pos ⟨rfl, rfl⟩]
        have oTx := oTx.cr cu (Nat.add_le_add_left (by decide : 1 ≤ 1) a) (Nat.add_le_add_left (by decide : 3 ≤ 146) a)
        have oPt := oPt.cr cu (Nat.add_le_add_left (by decide : 1 ≤ 3) a) (Nat.add_le_add_left (by decide : 8 ≤ 146) a)
        have oRd := oRd.cr cu (Nat.add_le_add_left (by decide : 1 ≤ 8) a) (Nat.add_le_add_left (by decide : 37 ≤ 146) a)
        have oPr := oPr.cr cu (Nat.add_le_add_left (by decide : 1 ≤ 12) a) (Nat.add_le_add_left (by decide : 17 ≤ 146) a)
        have oSt := oSt.cr cu (Nat.add_le_add_left (by decide : 1 ≤ 37) a) (Nat.add_le_add_left (by decide : 42 ≤ 146) a)
        have oDr := oDr.cr cu (Nat.add_le_add_left (by decide : 1 ≤ 42) a) (Nat.add_le_add_left (by decide : 47 ≤ 146) a)
        have oHi := oHi.cr cu (Nat.add_le_add_left (by decide : 1 ≤ 47) a) (Nat.add_le_add_left (by decide : 119 ≤ 146) a)
        have oS0 := oS0.cr cu (Nat.add_le_add_left (by decide : 1 ≤ 120) a) (Nat.add_le_add_left (by decide : 125 ≤ 146) a)
        have oS1 := oS1.cr cu (Nat.add_le_add_left (by decide : 1 ≤ 125) a) (Nat.add_le_add_left (by decide : 130 ≤ 146) a)
        have oSe := oSe.cr cu (Nat.add_le_add_left (by decide : 1 ≤ 131) a) (Nat.add_le_add_left (by decide : 136 ≤ 146) a)
        have oTr := oTr.cr cu (Nat.add_le_add_left (by decide : 1 ≤ 136) a) (Nat.add_le_add_left (by decide : 141 ≤ 146) a)
        have oBp := oBp.cr cu (Nat.add_le_add_left (by decide : 1 ≤ 141) a) (Nat.add_le_add_left (by decide : 146 ≤ 146) a)
        have rRd := cu.r rRd (Nat.add_le_add_left (by decide : 1 ≤ 8) a) (Nat.add_lt_add_left (by decide : 8 < 146) a)
        have rSt := cu.r rSt (Nat.add_le_add_left (by decide : 1 ≤ 37) a) (Nat.add_lt_add_left (by decide : 37 < 146) a)
        have rDr := cu.r rDr (Nat.add_le_add_left (by decide : 1 ≤ 42) a) (Nat.add_lt_add_left (by decide : 42 < 146) a)
        have rS0 := cu.r rS0 (Nat.add_le_add_left (by decide : 1 ≤ 120) a) (Nat.add_lt_add_left (by decide : 120 < 146) a)
        have rq0 := cu.r rq0 (Nat.add_le_add_left (by decide : 1 ≤ 119) a) (Nat.add_lt_add_left (by decide : 119 < 146) a)
        have rS1 := cu.r rS1 (Nat.add_le_add_left (by decide : 1 ≤ 125) a) (Nat.add_lt_add_left (by decide : 125 < 146) a)
        have rq1 := cu.r rq1 (Nat.add_le_add_left (by decide : 1 ≤ 119) a) (Nat.add_lt_add_left (by decide : 119 < 146) a)
        have gSl := cu.tg gSl (Nat.add_le_add_left (by decide : 1 ≤ 119) a) (Nat.add_lt_add_left (by decide : 119 < 146) a)
        have lSl := (cu (a + 119) (Nat.add_le_add_left (by decide : 1 ≤ 119) a) (Nat.add_lt_add_left (by decide : 119 < 146) a)).2.1.trans lSl
        have gFi := cu.tg gFi (Nat.add_le_add_left (by decide : 1 ≤ 130) a) (Nat.add_lt_add_left (by decide : 130 < 146) a)
        have lFi := (cu (a + 130) (Nat.add_le_add_left (by decide : 1 ≤ 130) a) (Nat.add_lt_add_left (by decide : 130 < 146) a)).2.1.trans lFi
        have rh : ∀ j, j < 14 → mx_rf (mx_uR K10 a 10 (a + 141)) (a + 49 + 5 * j) 6 = a + 3 := fun j hj => cu.r (rh j hj) (nh1 j (a + 1) (Or.inr (Nat.add_le_add_left (by decide : 1 ≤ 49) a))) (nh2 j 146 hj (by decide))
        have gthis : mx_tg (mx_uR K10 a 10 (a + 141)) a = 19 := gthis
        have zz : mx_sz (mx_uR K10 a 10 (a + 141)) = a + 146 := zz
        have c0 : mx_cr G (mx_uR K10 a 10 (a + 141)) 0 a := c0.uR _ _ _ (Or.inr (Nat.le_refl a))
        exact mx_vret dX9_init_160 rfl (⟨rfl, rfl, zz, c0, ⟨gthis, ⟨f0, oTx⟩, ⟨f1, oPt⟩, ⟨f2, oRd⟩, ⟨f3, oSt⟩, ⟨f4, oDr⟩, ⟨f5, oHi⟩, ⟨f6, gSl, lSl, ⟨rq0, oS0⟩, ⟨rq1, oS1⟩⟩, ⟨f7, gFi, lFi⟩, ⟨f8, oSe⟩, ⟨f9, oTr⟩, ⟨f10, oBp⟩⟩, rSt, rDr, rh, rS0, rS1, rfl, rRd, oPr⟩)
      · skip
        exact absurd c94 (by decide)
