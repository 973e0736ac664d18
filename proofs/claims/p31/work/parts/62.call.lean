/-! THE LAW: call -/
set_option maxHeartbeats 400000 in
set_option maxRecDepth 100000 in
theorem lc_append (G : mx_G) (I : mx_I) (a : Nat) (z : Zs) (hW : cW G I a z) (c : Int32) (u8 : Int32) (u9 : Int32) : mx_CT yL_call mL_call 10 2 12 [.ref a, .int (nI 0), .int c, .int u8, .int u9] G I (fun rv Gz Iz => rv = some (.int (tv (fl_append z c) (nI (zN z + 1)))) ∧ cP G I a (tz (fl_append z c) z (nx_append z c)) Gz Iz) (fun _ _ _ => False) := by
  refine mx_start (k := 0) (by decide) rfl rfl (fun h => nomatch h) (Nat.le_of_ble_eq_true rfl) ?_
  show mx_V mL_call mx_S0 10 2 12 0 [some (.ref a), some (.int (nI 0)), some (.int c), some (.int u8), some (.int u9)] [] G I (fun rv Gz Iz => rv = some (.int (tv (fl_append z c) (nI (zN z + 1)))) ∧ cP G I a (tz (fl_append z c) z (nx_append z c)) Gz Iz) (fun _ _ _ => False)
  refine mx_iload_n (i := 1) (hi := rfl) (hl := rfl) (hd := dL_call_0) ?_
  refine mx_tabIn (tgt := 100) dL_call_1 (by decide) (by decide) rfl (by decide) ?_
  refine mx_aload_n (i := 0) (hi := rfl) (hl := rfl) (hd := dL_call_100) ?_
  refine mx_iload_n (i := 2) (hi := rfl) (hl := rfl) (hd := dL_call_101) ?_
  refine mx_callSW (As := [.ref a, .int c]) (rest := []) (b1 := 2) (b2 := 12) dL_call_102 (lw_append G I a z hW c) km_L_tryAppend rfl k_667 k_668 rfl rfl (Nat.le_of_ble_eq_true rfl) (by decide) (fun _ _ _ q => q.elim) (fun r1 G1 I1 h2 => ?_)
  obtain ⟨e9, hP⟩ := h2
  generalize tv (fl_append z c) (nI (zN z + 1)) = r9 at e9 ⊢
  subst e9
  exact mx_iret dL_call_105 rfl rfl (⟨rfl, hP⟩)

set_option maxHeartbeats 400000 in
set_option maxRecDepth 100000 in
theorem lc_about (G : mx_G) (I : mx_I) (a : Nat) (z : Zs) (hW : cW G I a z) (w : Int32) (u8 : Int32) (u9 : Int32) : mx_CT yL_call mL_call 10 1 6 [.ref a, .int (nI 2), .int w, .int u8, .int u9] G I (fun rv Gz Iz => rv = some (.int (tv (fl_about w) (an_about z w.toInt.toNat))) ∧ cP G I a z Gz Iz) (fun _ _ _ => False) := by
  refine mx_start (k := 0) (by decide) rfl rfl (fun h => nomatch h) (Nat.le_of_ble_eq_true rfl) ?_
  show mx_V mL_call mx_S0 10 1 6 0 [some (.ref a), some (.int (nI 2)), some (.int w), some (.int u8), some (.int u9)] [] G I (fun rv Gz Iz => rv = some (.int (tv (fl_about w) (an_about z w.toInt.toNat))) ∧ cP G I a z Gz Iz) (fun _ _ _ => False)
  refine mx_iload_n (i := 1) (hi := rfl) (hl := rfl) (hd := dL_call_0) ?_
  refine mx_tabIn (tgt := 111) dL_call_1 (by decide) (by decide) rfl (by decide) ?_
  refine mx_aload_n (i := 0) (hi := rfl) (hl := rfl) (hd := dL_call_111) ?_
  refine mx_iload_n (i := 2) (hi := rfl) (hl := rfl) (hd := dL_call_112) ?_
  refine mx_callSW (As := [.ref a, .int w]) (rest := []) (b1 := 1) (b2 := 6) dL_call_113 (lw_about G I a z hW w) km_L_tryAbout rfl k_703 k_704 rfl rfl (Nat.le_of_ble_eq_true rfl) (by decide) (fun _ _ _ q => q.elim) (fun r1 G1 I1 h2 => ?_)
  obtain ⟨e9, hP⟩ := h2
  generalize tv (fl_about w) (an_about z w.toInt.toNat) = r9 at e9 ⊢
  subst e9
  exact mx_iret dL_call_116 rfl rfl (⟨rfl, hP⟩)

set_option maxHeartbeats 400000 in
set_option maxRecDepth 100000 in
theorem lc_step (G : mx_G) (I : mx_I) (a : Nat) (z : Zs) (hW : cW G I a z) (s : Int32) (w : Int32) (u9 : Int32) : mx_CT yL_call mL_call 10 2 12 [.ref a, .int (nI 3), .int s, .int w, .int u9] G I (fun rv Gz Iz => rv = some (.int (tv (fl_step z s w) (nI (an_step z s.toInt.toNat w.toInt.toNat)))) ∧ cP G I a z Gz Iz) (fun _ _ _ => False) := by
  refine mx_start (k := 0) (by decide) rfl rfl (fun h => nomatch h) (Nat.le_of_ble_eq_true rfl) ?_
  show mx_V mL_call mx_S0 10 2 12 0 [some (.ref a), some (.int (nI 3)), some (.int s), some (.int w), some (.int u9)] [] G I (fun rv Gz Iz => rv = some (.int (tv (fl_step z s w) (nI (an_step z s.toInt.toNat w.toInt.toNat)))) ∧ cP G I a z Gz Iz) (fun _ _ _ => False)
  refine mx_iload_n (i := 1) (hi := rfl) (hl := rfl) (hd := dL_call_0) ?_
  refine mx_tabIn (tgt := 117) dL_call_1 (by decide) (by decide) rfl (by decide) ?_
  refine mx_aload_n (i := 0) (hi := rfl) (hl := rfl) (hd := dL_call_117) ?_
  refine mx_iload_n (i := 2) (hi := rfl) (hl := rfl) (hd := dL_call_118) ?_
  refine mx_iload_n (i := 3) (hi := rfl) (hl := rfl) (hd := dL_call_119) ?_
  refine mx_callSW (As := [.ref a, .int s, .int w]) (rest := []) (b1 := 2) (b2 := 12) dL_call_120 (lw_step G I a z hW s w) km_L_tryStep rfl k_715 k_716 rfl rfl (Nat.le_of_ble_eq_true rfl) (by decide) (fun _ _ _ q => q.elim) (fun r1 G1 I1 h2 => ?_)
  obtain ⟨e9, hP⟩ := h2
  generalize tv (fl_step z s w) (nI (an_step z s.toInt.toNat w.toInt.toNat)) = r9 at e9 ⊢
  subst e9
  exact mx_iret dL_call_123 rfl rfl (⟨rfl, hP⟩)

set_option maxHeartbeats 400000 in
set_option maxRecDepth 100000 in
theorem lc_person (G : mx_G) (I : mx_I) (a : Nat) (z : Zs) (hW : cW G I a z) (p : Int32) (w : Int32) (u9 : Int32) : mx_CT yL_call mL_call 10 2 12 [.ref a, .int (nI 4), .int p, .int w, .int u9] G I (fun rv Gz Iz => rv = some (.int (tv (fl_person z p w) (nI (an_person z p.toInt.toNat w.toInt.toNat)))) ∧ cP G I a z Gz Iz) (fun _ _ _ => False) := by
  refine mx_start (k := 0) (by decide) rfl rfl (fun h => nomatch h) (Nat.le_of_ble_eq_true rfl) ?_
  show mx_V mL_call mx_S0 10 2 12 0 [some (.ref a), some (.int (nI 4)), some (.int p), some (.int w), some (.int u9)] [] G I (fun rv Gz Iz => rv = some (.int (tv (fl_person z p w) (nI (an_person z p.toInt.toNat w.toInt.toNat)))) ∧ cP G I a z Gz Iz) (fun _ _ _ => False)
  refine mx_iload_n (i := 1) (hi := rfl) (hl := rfl) (hd := dL_call_0) ?_
  refine mx_tabIn (tgt := 124) dL_call_1 (by decide) (by decide) rfl (by decide) ?_
  refine mx_aload_n (i := 0) (hi := rfl) (hl := rfl) (hd := dL_call_124) ?_
  refine mx_iload_n (i := 2) (hi := rfl) (hl := rfl) (hd := dL_call_125) ?_
  refine mx_iload_n (i := 3) (hi := rfl) (hl := rfl) (hd := dL_call_126) ?_
  refine mx_callSW (As := [.ref a, .int p, .int w]) (rest := []) (b1 := 2) (b2 := 12) dL_call_127 (lw_person G I a z hW p w) km_L_tryPerson rfl k_724 k_725 rfl rfl (Nat.le_of_ble_eq_true rfl) (by decide) (fun _ _ _ q => q.elim) (fun r1 G1 I1 h2 => ?_)
  obtain ⟨e9, hP⟩ := h2
  generalize tv (fl_person z p w) (nI (an_person z p.toInt.toNat w.toInt.toNat)) = r9 at e9 ⊢
  subst e9
  exact mx_iret dL_call_130 rfl rfl (⟨rfl, hP⟩)

set_option maxHeartbeats 400000 in
set_option maxRecDepth 100000 in
theorem lc_find (G : mx_G) (I : mx_I) (a : Nat) (z : Zs) (hW : cW G I a z) (p : Int32) (k : Int32) (q : Int32) : mx_CT yL_call mL_call 10 2 12 [.ref a, .int (nI 5), .int p, .int k, .int q] G I (fun rv Gz Iz => rv = some (.int (tv (fl_find z p k q) (oI (an_find z p.toInt.toNat k.toInt.toNat q.toInt.toNat)))) ∧ cP G I a z Gz Iz) (fun _ _ _ => False) := by
  refine mx_start (k := 0) (by decide) rfl rfl (fun h => nomatch h) (Nat.le_of_ble_eq_true rfl) ?_
  show mx_V mL_call mx_S0 10 2 12 0 [some (.ref a), some (.int (nI 5)), some (.int p), some (.int k), some (.int q)] [] G I (fun rv Gz Iz => rv = some (.int (tv (fl_find z p k q) (oI (an_find z p.toInt.toNat k.toInt.toNat q.toInt.toNat)))) ∧ cP G I a z Gz Iz) (fun _ _ _ => False)
  refine mx_iload_n (i := 1) (hi := rfl) (hl := rfl) (hd := dL_call_0) ?_
  refine mx_tabIn (tgt := 131) dL_call_1 (by decide) (by decide) rfl (by decide) ?_
  refine mx_aload_n (i := 0) (hi := rfl) (hl := rfl) (hd := dL_call_131) ?_
  refine mx_iload_n (i := 2) (hi := rfl) (hl := rfl) (hd := dL_call_132) ?_
  refine mx_iload_n (i := 3) (hi := rfl) (hl := rfl) (hd := dL_call_133) ?_
  refine mx_iload (i := 4) (hl := rfl) (hd := dL_call_134) ?_
  refine mx_callSW (As := [.ref a, .int p, .int k, .int q]) (rest := []) (b1 := 2) (b2 := 12) dL_call_136 (lw_find G I a z hW p k q) km_L_tryFind rfl k_740 k_741 rfl rfl (Nat.le_of_ble_eq_true rfl) (by decide) (fun _ _ _ q => q.elim) (fun r1 G1 I1 h2 => ?_)
  obtain ⟨e9, hP⟩ := h2
  generalize tv (fl_find z p k q) (oI (an_find z p.toInt.toNat k.toInt.toNat q.toInt.toNat)) = r9 at e9 ⊢
  subst e9
  exact mx_iret dL_call_139 rfl rfl (⟨rfl, hP⟩)

set_option maxHeartbeats 400000 in
set_option maxRecDepth 100000 in
theorem lc_patternAt (G : mx_G) (I : mx_I) (a : Nat) (z : Zs) (hW : cW G I a z) (j : Int32) (u8 : Int32) (u9 : Int32) : mx_CT yL_call mL_call 10 1 6 [.ref a, .int (nI 6), .int j, .int u8, .int u9] G I (fun rv Gz Iz => rv = some (.int (tv (fl_patternAt j) (an_patternAt z j.toInt.toNat))) ∧ cP G I a z Gz Iz) (fun _ _ _ => False) := by
  refine mx_start (k := 0) (by decide) rfl rfl (fun h => nomatch h) (Nat.le_of_ble_eq_true rfl) ?_
  show mx_V mL_call mx_S0 10 1 6 0 [some (.ref a), some (.int (nI 6)), some (.int j), some (.int u8), some (.int u9)] [] G I (fun rv Gz Iz => rv = some (.int (tv (fl_patternAt j) (an_patternAt z j.toInt.toNat))) ∧ cP G I a z Gz Iz) (fun _ _ _ => False)
  refine mx_iload_n (i := 1) (hi := rfl) (hl := rfl) (hd := dL_call_0) ?_
  refine mx_tabIn (tgt := 140) dL_call_1 (by decide) (by decide) rfl (by decide) ?_
  refine mx_aload_n (i := 0) (hi := rfl) (hl := rfl) (hd := dL_call_140) ?_
  refine mx_iload_n (i := 2) (hi := rfl) (hl := rfl) (hd := dL_call_141) ?_
  refine mx_callSW (As := [.ref a, .int j]) (rest := []) (b1 := 1) (b2 := 6) dL_call_142 (lw_patternAt G I a z hW j) km_L_trySign rfl k_748 k_749 rfl rfl (Nat.le_of_ble_eq_true rfl) (by decide) (fun _ _ _ q => q.elim) (fun r1 G1 I1 h2 => ?_)
  obtain ⟨e9, hP⟩ := h2
  generalize tv (fl_patternAt j) (an_patternAt z j.toInt.toNat) = r9 at e9 ⊢
  subst e9
  exact mx_iret dL_call_145 rfl rfl (⟨rfl, hP⟩)

set_option maxHeartbeats 400000 in
set_option maxRecDepth 100000 in
theorem lc_addPerson (G : mx_G) (I : mx_I) (a : Nat) (z : Zs) (hW : cW G I a z) (u7 : Int32) (u8 : Int32) (u9 : Int32) : mx_CT yL_call mL_call 10 1 6 [.ref a, .int (nI 7), .int u7, .int u8, .int u9] G I (fun rv Gz Iz => rv = some (.int (tv (fl_addPerson z) (nI (gP (zG z))))) ∧ cP G I a (tz (fl_addPerson z) z (nx_addPerson z)) Gz Iz) (fun _ _ _ => False) := by
  refine mx_start (k := 0) (by decide) rfl rfl (fun h => nomatch h) (Nat.le_of_ble_eq_true rfl) ?_
  show mx_V mL_call mx_S0 10 1 6 0 [some (.ref a), some (.int (nI 7)), some (.int u7), some (.int u8), some (.int u9)] [] G I (fun rv Gz Iz => rv = some (.int (tv (fl_addPerson z) (nI (gP (zG z))))) ∧ cP G I a (tz (fl_addPerson z) z (nx_addPerson z)) Gz Iz) (fun _ _ _ => False)
  refine mx_iload_n (i := 1) (hi := rfl) (hl := rfl) (hd := dL_call_0) ?_
  refine mx_tabIn (tgt := 146) dL_call_1 (by decide) (by decide) rfl (by decide) ?_
  refine mx_aload_n (i := 0) (hi := rfl) (hl := rfl) (hd := dL_call_146) ?_
  refine mx_callSW (As := [.ref a]) (rest := []) (b1 := 1) (b2 := 6) dL_call_147 (lw_addPerson G I a z hW) km_L_tryPerson2 rfl k_755 k_756 rfl rfl (Nat.le_of_ble_eq_true rfl) (by decide) (fun _ _ _ q => q.elim) (fun r1 G1 I1 h2 => ?_)
  obtain ⟨e9, hP⟩ := h2
  generalize tv (fl_addPerson z) (nI (gP (zG z))) = r9 at e9 ⊢
  subst e9
  exact mx_iret dL_call_150 rfl rfl (⟨rfl, hP⟩)

set_option maxHeartbeats 400000 in
set_option maxRecDepth 100000 in
theorem lc_removeStep (G : mx_G) (I : mx_I) (a : Nat) (z : Zs) (hW : cW G I a z) (s : Int32) (u8 : Int32) (u9 : Int32) : mx_CT yL_call mL_call 10 1 6 [.ref a, .int (nI 8), .int s, .int u8, .int u9] G I (fun rv Gz Iz => rv = some (.int (tv (fl_one (gN (zG z)) s) (nI (gN (zG z) - 1)))) ∧ cP G I a (tz (fl_one (gN (zG z)) s) z (nx_removeStep z s.toInt.toNat)) Gz Iz) (fun _ _ _ => False) := by
  refine mx_start (k := 0) (by decide) rfl rfl (fun h => nomatch h) (Nat.le_of_ble_eq_true rfl) ?_
  show mx_V mL_call mx_S0 10 1 6 0 [some (.ref a), some (.int (nI 8)), some (.int s), some (.int u8), some (.int u9)] [] G I (fun rv Gz Iz => rv = some (.int (tv (fl_one (gN (zG z)) s) (nI (gN (zG z) - 1)))) ∧ cP G I a (tz (fl_one (gN (zG z)) s) z (nx_removeStep z s.toInt.toNat)) Gz Iz) (fun _ _ _ => False)
  refine mx_iload_n (i := 1) (hi := rfl) (hl := rfl) (hd := dL_call_0) ?_
  refine mx_tabIn (tgt := 151) dL_call_1 (by decide) (by decide) rfl (by decide) ?_
  refine mx_aload_n (i := 0) (hi := rfl) (hl := rfl) (hd := dL_call_151) ?_
  refine mx_iload_n (i := 2) (hi := rfl) (hl := rfl) (hd := dL_call_152) ?_
  refine mx_callSW (As := [.ref a, .int s]) (rest := []) (b1 := 1) (b2 := 6) dL_call_153 (lw_removeStep G I a z hW s) km_L_tryCut rfl k_770 k_771 rfl rfl (Nat.le_of_ble_eq_true rfl) (by decide) (fun _ _ _ q => q.elim) (fun r1 G1 I1 h2 => ?_)
  obtain ⟨e9, hP⟩ := h2
  generalize tv (fl_one (gN (zG z)) s) (nI (gN (zG z) - 1)) = r9 at e9 ⊢
  subst e9
  exact mx_iret dL_call_156 rfl rfl (⟨rfl, hP⟩)

set_option maxHeartbeats 400000 in
set_option maxRecDepth 100000 in
theorem lc_setCost (G : mx_G) (I : mx_I) (a : Nat) (z : Zs) (hW : cW G I a z) (s : Int32) (c : Int32) (u9 : Int32) : mx_CT yL_call mL_call 10 1 6 [.ref a, .int (nI 9), .int s, .int c, .int u9] G I (fun rv Gz Iz => rv = some (.int (tv (fl_setCost z s c) (nI (gC (zG z) s.toInt.toNat)))) ∧ cP G I a (tz (fl_setCost z s c) z (nx_setCost z s.toInt.toNat c.toInt.toNat)) Gz Iz) (fun _ _ _ => False) := by
  refine mx_start (k := 0) (by decide) rfl rfl (fun h => nomatch h) (Nat.le_of_ble_eq_true rfl) ?_
  show mx_V mL_call mx_S0 10 1 6 0 [some (.ref a), some (.int (nI 9)), some (.int s), some (.int c), some (.int u9)] [] G I (fun rv Gz Iz => rv = some (.int (tv (fl_setCost z s c) (nI (gC (zG z) s.toInt.toNat)))) ∧ cP G I a (tz (fl_setCost z s c) z (nx_setCost z s.toInt.toNat c.toInt.toNat)) Gz Iz) (fun _ _ _ => False)
  refine mx_iload_n (i := 1) (hi := rfl) (hl := rfl) (hd := dL_call_0) ?_
  refine mx_tabIn (tgt := 157) dL_call_1 (by decide) (by decide) rfl (by decide) ?_
  refine mx_aload_n (i := 0) (hi := rfl) (hl := rfl) (hd := dL_call_157) ?_
  refine mx_iload_n (i := 2) (hi := rfl) (hl := rfl) (hd := dL_call_158) ?_
  refine mx_iload_n (i := 3) (hi := rfl) (hl := rfl) (hd := dL_call_159) ?_
  refine mx_callSW (As := [.ref a, .int s, .int c]) (rest := []) (b1 := 1) (b2 := 6) dL_call_160 (lw_setCost G I a z hW s c) km_L_tryPrice rfl k_777 k_778 rfl rfl (Nat.le_of_ble_eq_true rfl) (by decide) (fun _ _ _ q => q.elim) (fun r1 G1 I1 h2 => ?_)
  obtain ⟨e9, hP⟩ := h2
  generalize tv (fl_setCost z s c) (nI (gC (zG z) s.toInt.toNat)) = r9 at e9 ⊢
  subst e9
  exact mx_iret dL_call_163 rfl rfl (⟨rfl, hP⟩)

set_option maxHeartbeats 400000 in
set_option maxRecDepth 100000 in
theorem lc_turn (G : mx_G) (I : mx_I) (a : Nat) (z : Zs) (hW : cW G I a z) (s : Int32) (u8 : Int32) (u9 : Int32) : mx_CT yL_call mL_call 10 1 6 [.ref a, .int (nI 10), .int s, .int u8, .int u9] G I (fun rv Gz Iz => rv = some (.int (tv (fl_turn z s) (nI (gT (zG z) s.toInt.toNat)))) ∧ cP G I a (tz (fl_turn z s) z (nx_turn z s.toInt.toNat)) Gz Iz) (fun _ _ _ => False) := by
  refine mx_start (k := 0) (by decide) rfl rfl (fun h => nomatch h) (Nat.le_of_ble_eq_true rfl) ?_
  show mx_V mL_call mx_S0 10 1 6 0 [some (.ref a), some (.int (nI 10)), some (.int s), some (.int u8), some (.int u9)] [] G I (fun rv Gz Iz => rv = some (.int (tv (fl_turn z s) (nI (gT (zG z) s.toInt.toNat)))) ∧ cP G I a (tz (fl_turn z s) z (nx_turn z s.toInt.toNat)) Gz Iz) (fun _ _ _ => False)
  refine mx_iload_n (i := 1) (hi := rfl) (hl := rfl) (hd := dL_call_0) ?_
  refine mx_tabIn (tgt := 164) dL_call_1 (by decide) (by decide) rfl (by decide) ?_
  refine mx_aload_n (i := 0) (hi := rfl) (hl := rfl) (hd := dL_call_164) ?_
  refine mx_iload_n (i := 2) (hi := rfl) (hl := rfl) (hd := dL_call_165) ?_
  refine mx_callSW (As := [.ref a, .int s]) (rest := []) (b1 := 1) (b2 := 6) dL_call_166 (lw_turn G I a z hW s) km_L_tryTurn rfl k_784 k_785 rfl rfl (Nat.le_of_ble_eq_true rfl) (by decide) (fun _ _ _ q => q.elim) (fun r1 G1 I1 h2 => ?_)
  obtain ⟨e9, hP⟩ := h2
  generalize tv (fl_turn z s) (nI (gT (zG z) s.toInt.toNat)) = r9 at e9 ⊢
  subst e9
  exact mx_iret dL_call_169 rfl rfl (⟨rfl, hP⟩)

set_option maxHeartbeats 400000 in
set_option maxRecDepth 100000 in
theorem lc_exchange (G : mx_G) (I : mx_I) (a : Nat) (z : Zs) (hW : cW G I a z) (k : Int32) (l : Int32) (u9 : Int32) : mx_CT yL_call mL_call 10 1 6 [.ref a, .int (nI 11), .int k, .int l, .int u9] G I (fun rv Gz Iz => rv = some (.int (tv (fl_exchange k l) (nI (gCh (gK (zG z)) k.toInt.toNat l.toInt.toNat (gN (zG z)))))) ∧ cP G I a (tz (fl_exchange k l) z (nx_exchange z k.toInt.toNat l.toInt.toNat)) Gz Iz) (fun _ _ _ => False) := by
  refine mx_start (k := 0) (by decide) rfl rfl (fun h => nomatch h) (Nat.le_of_ble_eq_true rfl) ?_
  show mx_V mL_call mx_S0 10 1 6 0 [some (.ref a), some (.int (nI 11)), some (.int k), some (.int l), some (.int u9)] [] G I (fun rv Gz Iz => rv = some (.int (tv (fl_exchange k l) (nI (gCh (gK (zG z)) k.toInt.toNat l.toInt.toNat (gN (zG z)))))) ∧ cP G I a (tz (fl_exchange k l) z (nx_exchange z k.toInt.toNat l.toInt.toNat)) Gz Iz) (fun _ _ _ => False)
  refine mx_iload_n (i := 1) (hi := rfl) (hl := rfl) (hd := dL_call_0) ?_
  refine mx_tabIn (tgt := 170) dL_call_1 (by decide) (by decide) rfl (by decide) ?_
  refine mx_aload_n (i := 0) (hi := rfl) (hl := rfl) (hd := dL_call_170) ?_
  refine mx_iload_n (i := 2) (hi := rfl) (hl := rfl) (hd := dL_call_171) ?_
  refine mx_iload_n (i := 3) (hi := rfl) (hl := rfl) (hd := dL_call_172) ?_
  refine mx_callSW (As := [.ref a, .int k, .int l]) (rest := []) (b1 := 1) (b2 := 6) dL_call_173 (lw_exchange G I a z hW k l) km_L_trySwap rfl k_791 k_792 rfl rfl (Nat.le_of_ble_eq_true rfl) (by decide) (fun _ _ _ q => q.elim) (fun r1 G1 I1 h2 => ?_)
  obtain ⟨e9, hP⟩ := h2
  generalize tv (fl_exchange k l) (nI (gCh (gK (zG z)) k.toInt.toNat l.toInt.toNat (gN (zG z)))) = r9 at e9 ⊢
  subst e9
  exact mx_iret dL_call_176 rfl rfl (⟨rfl, hP⟩)

set_option maxHeartbeats 400000 in
set_option maxRecDepth 100000 in
theorem lc_take (G : mx_G) (I : mx_I) (a : Nat) (z : Zs) (hW : cW G I a z) (u7 : Int32) (u8 : Int32) (u9 : Int32) : mx_CT yL_call mL_call 10 6 103 [.ref a, .int (nI 12), .int u7, .int u8, .int u9] G I (fun rv Gz Iz => rv = some (.int (tv (fl_take z) (nI (pL (rdF (zT z) (zN z)))))) ∧ cP G I a (tz (fl_take z) z (nx_take z)) Gz Iz) (fun _ _ _ => False) := by
  refine mx_start (k := 0) (by decide) rfl rfl (fun h => nomatch h) (Nat.le_of_ble_eq_true rfl) ?_
  show mx_V mL_call mx_S0 10 6 103 0 [some (.ref a), some (.int (nI 12)), some (.int u7), some (.int u8), some (.int u9)] [] G I (fun rv Gz Iz => rv = some (.int (tv (fl_take z) (nI (pL (rdF (zT z) (zN z)))))) ∧ cP G I a (tz (fl_take z) z (nx_take z)) Gz Iz) (fun _ _ _ => False)
  refine mx_iload_n (i := 1) (hi := rfl) (hl := rfl) (hd := dL_call_0) ?_
  refine mx_tabIn (tgt := 177) dL_call_1 (by decide) (by decide) rfl (by decide) ?_
  refine mx_aload_n (i := 0) (hi := rfl) (hl := rfl) (hd := dL_call_177) ?_
  refine mx_callSW (As := [.ref a]) (rest := []) (b1 := 6) (b2 := 103) dL_call_178 (lw_take G I a z hW) km_L_tryTake rfl k_798 k_799 rfl rfl (Nat.le_of_ble_eq_true rfl) (by decide) (fun _ _ _ q => q.elim) (fun r1 G1 I1 h2 => ?_)
  obtain ⟨e9, hP⟩ := h2
  generalize tv (fl_take z) (nI (pL (rdF (zT z) (zN z)))) = r9 at e9 ⊢
  subst e9
  exact mx_iret dL_call_181 rfl rfl (⟨rfl, hP⟩)

set_option maxHeartbeats 400000 in
set_option maxRecDepth 100000 in
theorem lc_undo (G : mx_G) (I : mx_I) (a : Nat) (z : Zs) (hW : cW G I a z) (u7 : Int32) (u8 : Int32) (u9 : Int32) : mx_CT yL_call mL_call 10 1 6 [.ref a, .int (nI 13), .int u7, .int u8, .int u9] G I (fun rv Gz Iz => rv = some (.int (tv (fl_undo z) (nI (zC z - 1)))) ∧ cP G I a (tz (fl_undo z) z (nx_undo z)) Gz Iz) (fun _ _ _ => False) := by
  refine mx_start (k := 0) (by decide) rfl rfl (fun h => nomatch h) (Nat.le_of_ble_eq_true rfl) ?_
  show mx_V mL_call mx_S0 10 1 6 0 [some (.ref a), some (.int (nI 13)), some (.int u7), some (.int u8), some (.int u9)] [] G I (fun rv Gz Iz => rv = some (.int (tv (fl_undo z) (nI (zC z - 1)))) ∧ cP G I a (tz (fl_undo z) z (nx_undo z)) Gz Iz) (fun _ _ _ => False)
  refine mx_iload_n (i := 1) (hi := rfl) (hl := rfl) (hd := dL_call_0) ?_
  refine mx_tabIn (tgt := 182) dL_call_1 (by decide) (by decide) rfl (by decide) ?_
  refine mx_aload_n (i := 0) (hi := rfl) (hl := rfl) (hd := dL_call_182) ?_
  refine mx_callSW (As := [.ref a]) (rest := []) (b1 := 1) (b2 := 6) dL_call_183 (lw_undo G I a z hW) km_L_tryUndo rfl k_853 k_854 rfl rfl (Nat.le_of_ble_eq_true rfl) (by decide) (fun _ _ _ q => q.elim) (fun r1 G1 I1 h2 => ?_)
  obtain ⟨e9, hP⟩ := h2
  generalize tv (fl_undo z) (nI (zC z - 1)) = r9 at e9 ⊢
  subst e9
  exact mx_iret dL_call_186 rfl rfl (⟨rfl, hP⟩)

set_option maxHeartbeats 400000 in
set_option maxRecDepth 100000 in
theorem lc_cost (G : mx_G) (I : mx_I) (a : Nat) (z : Zs) (hW : cW G I a z) (p : Int32) (q : Int32) (u9 : Int32) : mx_CT yL_call mL_call 10 1 6 [.ref a, .int (nI 14), .int p, .int q, .int u9] G I (fun rv Gz Iz => rv = some (.int (tv (fl_two z p q) (oI (an_cost z p.toInt.toNat q.toInt.toNat)))) ∧ cP G I a z Gz Iz) (fun _ _ _ => False) := by
  refine mx_start (k := 0) (by decide) rfl rfl (fun h => nomatch h) (Nat.le_of_ble_eq_true rfl) ?_
  show mx_V mL_call mx_S0 10 1 6 0 [some (.ref a), some (.int (nI 14)), some (.int p), some (.int q), some (.int u9)] [] G I (fun rv Gz Iz => rv = some (.int (tv (fl_two z p q) (oI (an_cost z p.toInt.toNat q.toInt.toNat)))) ∧ cP G I a z Gz Iz) (fun _ _ _ => False)
  refine mx_iload_n (i := 1) (hi := rfl) (hl := rfl) (hd := dL_call_0) ?_
  refine mx_tabIn (tgt := 187) dL_call_1 (by decide) (by decide) rfl (by decide) ?_
  refine mx_aload_n (i := 0) (hi := rfl) (hl := rfl) (hd := dL_call_187) ?_
  refine mx_iload_n (i := 2) (hi := rfl) (hl := rfl) (hd := dL_call_188) ?_
  refine mx_iload_n (i := 3) (hi := rfl) (hl := rfl) (hd := dL_call_189) ?_
  refine mx_callSW (As := [.ref a, .int p, .int q]) (rest := []) (b1 := 1) (b2 := 6) dL_call_190 (lw_cost G I a z hW p q) km_L_tryCost rfl k_864 k_865 rfl rfl (Nat.le_of_ble_eq_true rfl) (by decide) (fun _ _ _ q => q.elim) (fun r1 G1 I1 h2 => ?_)
  obtain ⟨e9, hP⟩ := h2
  generalize tv (fl_two z p q) (oI (an_cost z p.toInt.toNat q.toInt.toNat)) = r9 at e9 ⊢
  subst e9
  exact mx_iret dL_call_193 rfl rfl (⟨rfl, hP⟩)

set_option maxHeartbeats 400000 in
set_option maxRecDepth 100000 in
theorem lc_length (G : mx_G) (I : mx_I) (a : Nat) (z : Zs) (hW : cW G I a z) (p : Int32) (q : Int32) (u9 : Int32) : mx_CT yL_call mL_call 10 1 6 [.ref a, .int (nI 15), .int p, .int q, .int u9] G I (fun rv Gz Iz => rv = some (.int (tv (fl_two z p q) (oI (an_length z p.toInt.toNat q.toInt.toNat)))) ∧ cP G I a z Gz Iz) (fun _ _ _ => False) := by
  refine mx_start (k := 0) (by decide) rfl rfl (fun h => nomatch h) (Nat.le_of_ble_eq_true rfl) ?_
  show mx_V mL_call mx_S0 10 1 6 0 [some (.ref a), some (.int (nI 15)), some (.int p), some (.int q), some (.int u9)] [] G I (fun rv Gz Iz => rv = some (.int (tv (fl_two z p q) (oI (an_length z p.toInt.toNat q.toInt.toNat)))) ∧ cP G I a z Gz Iz) (fun _ _ _ => False)
  refine mx_iload_n (i := 1) (hi := rfl) (hl := rfl) (hd := dL_call_0) ?_
  refine mx_tabIn (tgt := 194) dL_call_1 (by decide) (by decide) rfl (by decide) ?_
  refine mx_aload_n (i := 0) (hi := rfl) (hl := rfl) (hd := dL_call_194) ?_
  refine mx_iload_n (i := 2) (hi := rfl) (hl := rfl) (hd := dL_call_195) ?_
  refine mx_iload_n (i := 3) (hi := rfl) (hl := rfl) (hd := dL_call_196) ?_
  refine mx_callSW (As := [.ref a, .int p, .int q]) (rest := []) (b1 := 1) (b2 := 6) dL_call_197 (lw_length G I a z hW p q) km_L_tryLong rfl k_871 k_872 rfl rfl (Nat.le_of_ble_eq_true rfl) (by decide) (fun _ _ _ q => q.elim) (fun r1 G1 I1 h2 => ?_)
  obtain ⟨e9, hP⟩ := h2
  generalize tv (fl_two z p q) (oI (an_length z p.toInt.toNat q.toInt.toNat)) = r9 at e9 ⊢
  subst e9
  exact mx_iret dL_call_200 rfl rfl (⟨rfl, hP⟩)

set_option maxHeartbeats 400000 in
set_option maxRecDepth 100000 in
theorem lc_pathAt (G : mx_G) (I : mx_I) (a : Nat) (z : Zs) (hW : cW G I a z) (p : Int32) (q : Int32) (j : Int32) : mx_CT yL_call mL_call 10 2 12 [.ref a, .int (nI 16), .int p, .int q, .int j] G I (fun rv Gz Iz => rv = some (.int (tv (fl_pathAt z p q j) (oI (an_pathAt z p.toInt.toNat q.toInt.toNat j.toInt.toNat)))) ∧ cP G I a z Gz Iz) (fun _ _ _ => False) := by
  refine mx_start (k := 0) (by decide) rfl rfl (fun h => nomatch h) (Nat.le_of_ble_eq_true rfl) ?_
  show mx_V mL_call mx_S0 10 2 12 0 [some (.ref a), some (.int (nI 16)), some (.int p), some (.int q), some (.int j)] [] G I (fun rv Gz Iz => rv = some (.int (tv (fl_pathAt z p q j) (oI (an_pathAt z p.toInt.toNat q.toInt.toNat j.toInt.toNat)))) ∧ cP G I a z Gz Iz) (fun _ _ _ => False)
  refine mx_iload_n (i := 1) (hi := rfl) (hl := rfl) (hd := dL_call_0) ?_
  refine mx_tabIn (tgt := 201) dL_call_1 (by decide) (by decide) rfl (by decide) ?_
  refine mx_aload_n (i := 0) (hi := rfl) (hl := rfl) (hd := dL_call_201) ?_
  refine mx_iload_n (i := 2) (hi := rfl) (hl := rfl) (hd := dL_call_202) ?_
  refine mx_iload_n (i := 3) (hi := rfl) (hl := rfl) (hd := dL_call_203) ?_
  refine mx_iload (i := 4) (hl := rfl) (hd := dL_call_204) ?_
  refine mx_callSW (As := [.ref a, .int p, .int q, .int j]) (rest := []) (b1 := 2) (b2 := 12) dL_call_206 (lw_pathAt G I a z hW p q j) km_L_tryPath rfl k_878 k_879 rfl rfl (Nat.le_of_ble_eq_true rfl) (by decide) (fun _ _ _ q => q.elim) (fun r1 G1 I1 h2 => ?_)
  obtain ⟨e9, hP⟩ := h2
  generalize tv (fl_pathAt z p q j) (oI (an_pathAt z p.toInt.toNat q.toInt.toNat j.toInt.toNat)) = r9 at e9 ⊢
  subst e9
  exact mx_iret dL_call_209 rfl rfl (⟨rfl, hP⟩)

set_option maxHeartbeats 400000 in
set_option maxRecDepth 100000 in
theorem lc_paths (G : mx_G) (I : mx_I) (a : Nat) (z : Zs) (hW : cW G I a z) (p : Int32) (q : Int32) (n : Int32) : mx_CT yL_call mL_call 10 2 12 [.ref a, .int (nI 17), .int p, .int q, .int n] G I (fun rv Gz Iz => rv = some (.int (tv (fl_paths z p q n) (nI (an_paths z p.toInt.toNat q.toInt.toNat n.toInt.toNat)))) ∧ cP G I a z Gz Iz) (fun _ _ _ => False) := by
  refine mx_start (k := 0) (by decide) rfl rfl (fun h => nomatch h) (Nat.le_of_ble_eq_true rfl) ?_
  show mx_V mL_call mx_S0 10 2 12 0 [some (.ref a), some (.int (nI 17)), some (.int p), some (.int q), some (.int n)] [] G I (fun rv Gz Iz => rv = some (.int (tv (fl_paths z p q n) (nI (an_paths z p.toInt.toNat q.toInt.toNat n.toInt.toNat)))) ∧ cP G I a z Gz Iz) (fun _ _ _ => False)
  refine mx_iload_n (i := 1) (hi := rfl) (hl := rfl) (hd := dL_call_0) ?_
  refine mx_tabIn (tgt := 210) dL_call_1 (by decide) (by decide) rfl (by decide) ?_
  refine mx_aload_n (i := 0) (hi := rfl) (hl := rfl) (hd := dL_call_210) ?_
  refine mx_iload_n (i := 2) (hi := rfl) (hl := rfl) (hd := dL_call_211) ?_
  refine mx_iload_n (i := 3) (hi := rfl) (hl := rfl) (hd := dL_call_212) ?_
  refine mx_iload (i := 4) (hl := rfl) (hd := dL_call_213) ?_
  refine mx_callSW (As := [.ref a, .int p, .int q, .int n]) (rest := []) (b1 := 2) (b2 := 12) dL_call_215 (lw_paths G I a z hW p q n) km_L_tryPaths rfl k_911 k_912 rfl rfl (Nat.le_of_ble_eq_true rfl) (by decide) (fun _ _ _ q => q.elim) (fun r1 G1 I1 h2 => ?_)
  obtain ⟨e9, hP⟩ := h2
  generalize tv (fl_paths z p q n) (nI (an_paths z p.toInt.toNat q.toInt.toNat n.toInt.toNat)) = r9 at e9 ⊢
  subst e9
  exact mx_iret dL_call_218 rfl rfl (⟨rfl, hP⟩)

set_option maxHeartbeats 400000 in
set_option maxRecDepth 100000 in
theorem lc_needed (G : mx_G) (I : mx_I) (a : Nat) (z : Zs) (hW : cW G I a z) (p : Int32) (q : Int32) (u9 : Int32) : mx_CT yL_call mL_call 10 1 6 [.ref a, .int (nI 18), .int p, .int q, .int u9] G I (fun rv Gz Iz => rv = some (.int (tv (fl_two z p q) (nI (an_needed z p.toInt.toNat q.toInt.toNat)))) ∧ cP G I a z Gz Iz) (fun _ _ _ => False) := by
  refine mx_start (k := 0) (by decide) rfl rfl (fun h => nomatch h) (Nat.le_of_ble_eq_true rfl) ?_
  show mx_V mL_call mx_S0 10 1 6 0 [some (.ref a), some (.int (nI 18)), some (.int p), some (.int q), some (.int u9)] [] G I (fun rv Gz Iz => rv = some (.int (tv (fl_two z p q) (nI (an_needed z p.toInt.toNat q.toInt.toNat)))) ∧ cP G I a z Gz Iz) (fun _ _ _ => False)
  refine mx_iload_n (i := 1) (hi := rfl) (hl := rfl) (hd := dL_call_0) ?_
  refine mx_tabIn (tgt := 219) dL_call_1 (by decide) (by decide) rfl (by decide) ?_
  refine mx_aload_n (i := 0) (hi := rfl) (hl := rfl) (hd := dL_call_219) ?_
  refine mx_iload_n (i := 2) (hi := rfl) (hl := rfl) (hd := dL_call_220) ?_
  refine mx_iload_n (i := 3) (hi := rfl) (hl := rfl) (hd := dL_call_221) ?_
  refine mx_callSW (As := [.ref a, .int p, .int q]) (rest := []) (b1 := 1) (b2 := 6) dL_call_222 (lw_needed G I a z hW p q) km_L_tryNeeded rfl k_925 k_926 rfl rfl (Nat.le_of_ble_eq_true rfl) (by decide) (fun _ _ _ q => q.elim) (fun r1 G1 I1 h2 => ?_)
  obtain ⟨e9, hP⟩ := h2
  generalize tv (fl_two z p q) (nI (an_needed z p.toInt.toNat q.toInt.toNat)) = r9 at e9 ⊢
  subst e9
  exact mx_iret dL_call_225 rfl rfl (⟨rfl, hP⟩)

set_option maxHeartbeats 400000 in
set_option maxRecDepth 100000 in
theorem lc_bestNew (G : mx_G) (I : mx_I) (a : Nat) (z : Zs) (hW : cW G I a z) (p : Int32) (q : Int32) (u9 : Int32) : mx_CT yL_call mL_call 10 1 6 [.ref a, .int (nI 19), .int p, .int q, .int u9] G I (fun rv Gz Iz => rv = some (.int (tv (fl_two z p q) (oI (an_bestNew z p.toInt.toNat q.toInt.toNat)))) ∧ cP G I a z Gz Iz) (fun _ _ _ => False) := by
  refine mx_start (k := 0) (by decide) rfl rfl (fun h => nomatch h) (Nat.le_of_ble_eq_true rfl) ?_
  show mx_V mL_call mx_S0 10 1 6 0 [some (.ref a), some (.int (nI 19)), some (.int p), some (.int q), some (.int u9)] [] G I (fun rv Gz Iz => rv = some (.int (tv (fl_two z p q) (oI (an_bestNew z p.toInt.toNat q.toInt.toNat)))) ∧ cP G I a z Gz Iz) (fun _ _ _ => False)
  refine mx_iload_n (i := 1) (hi := rfl) (hl := rfl) (hd := dL_call_0) ?_
  refine mx_tabIn (tgt := 226) dL_call_1 (by decide) (by decide) rfl (by decide) ?_
  refine mx_aload_n (i := 0) (hi := rfl) (hl := rfl) (hd := dL_call_226) ?_
  refine mx_iload_n (i := 2) (hi := rfl) (hl := rfl) (hd := dL_call_227) ?_
  refine mx_iload_n (i := 3) (hi := rfl) (hl := rfl) (hd := dL_call_228) ?_
  refine mx_callSW (As := [.ref a, .int p, .int q]) (rest := []) (b1 := 1) (b2 := 6) dL_call_229 (lw_bestNew G I a z hW p q) km_L_tryNew rfl k_932 k_933 rfl rfl (Nat.le_of_ble_eq_true rfl) (by decide) (fun _ _ _ q => q.elim) (fun r1 G1 I1 h2 => ?_)
  obtain ⟨e9, hP⟩ := h2
  generalize tv (fl_two z p q) (oI (an_bestNew z p.toInt.toNat q.toInt.toNat)) = r9 at e9 ⊢
  subst e9
  exact mx_iret dL_call_232 rfl rfl (⟨rfl, hP⟩)

set_option maxHeartbeats 400000 in
set_option maxRecDepth 100000 in
theorem lc_save (G : mx_G) (I : mx_I) (a : Nat) (z : Zs) (hW : cW G I a z) (s : Int32) (u8 : Int32) (u9 : Int32) : mx_CT yL_call mL_call 10 1 6 [.ref a, .int (nI 20), .int s, .int u8, .int u9] G I (fun rv Gz Iz => rv = some (.int (tv (fl_slot s) (nI (gN (zG z))))) ∧ cP G I a (tz (fl_slot s) z (nx_save z s.toInt.toNat)) Gz Iz) (fun _ _ _ => False) := by
  refine mx_start (k := 0) (by decide) rfl rfl (fun h => nomatch h) (Nat.le_of_ble_eq_true rfl) ?_
  show mx_V mL_call mx_S0 10 1 6 0 [some (.ref a), some (.int (nI 20)), some (.int s), some (.int u8), some (.int u9)] [] G I (fun rv Gz Iz => rv = some (.int (tv (fl_slot s) (nI (gN (zG z))))) ∧ cP G I a (tz (fl_slot s) z (nx_save z s.toInt.toNat)) Gz Iz) (fun _ _ _ => False)
  refine mx_iload_n (i := 1) (hi := rfl) (hl := rfl) (hd := dL_call_0) ?_
  refine mx_tabIn (tgt := 233) dL_call_1 (by decide) (by decide) rfl (by decide) ?_
  refine mx_aload_n (i := 0) (hi := rfl) (hl := rfl) (hd := dL_call_233) ?_
  refine mx_iload_n (i := 2) (hi := rfl) (hl := rfl) (hd := dL_call_234) ?_
  refine mx_callSW (As := [.ref a, .int s]) (rest := []) (b1 := 1) (b2 := 6) dL_call_235 (lw_save G I a z hW s) km_L_tryKeep rfl k_952 k_953 rfl rfl (Nat.le_of_ble_eq_true rfl) (by decide) (fun _ _ _ q => q.elim) (fun r1 G1 I1 h2 => ?_)
  obtain ⟨e9, hP⟩ := h2
  generalize tv (fl_slot s) (nI (gN (zG z))) = r9 at e9 ⊢
  subst e9
  exact mx_iret dL_call_238 rfl rfl (⟨rfl, hP⟩)

set_option maxHeartbeats 400000 in
set_option maxRecDepth 100000 in
theorem lc_restore (G : mx_G) (I : mx_I) (a : Nat) (z : Zs) (hW : cW G I a z) (s : Int32) (u8 : Int32) (u9 : Int32) : mx_CT yL_call mL_call 10 2 12 [.ref a, .int (nI 21), .int s, .int u8, .int u9] G I (fun rv Gz Iz => rv = some (.int (tv (fl_restore z s) (nI (gN (zK z s.toInt.toNat).1)))) ∧ cP G I a (tz (fl_restore z s) z (nx_restore z s.toInt.toNat)) Gz Iz) (fun _ _ _ => False) := by
  refine mx_start (k := 0) (by decide) rfl rfl (fun h => nomatch h) (Nat.le_of_ble_eq_true rfl) ?_
  show mx_V mL_call mx_S0 10 2 12 0 [some (.ref a), some (.int (nI 21)), some (.int s), some (.int u8), some (.int u9)] [] G I (fun rv Gz Iz => rv = some (.int (tv (fl_restore z s) (nI (gN (zK z s.toInt.toNat).1)))) ∧ cP G I a (tz (fl_restore z s) z (nx_restore z s.toInt.toNat)) Gz Iz) (fun _ _ _ => False)
  refine mx_iload_n (i := 1) (hi := rfl) (hl := rfl) (hd := dL_call_0) ?_
  refine mx_tabOut (tgt := 239) dL_call_1 (by decide) (by decide) ?_
  refine mx_aload_n (i := 0) (hi := rfl) (hl := rfl) (hd := dL_call_239) ?_
  refine mx_iload_n (i := 2) (hi := rfl) (hl := rfl) (hd := dL_call_240) ?_
  refine mx_callSW (As := [.ref a, .int s]) (rest := []) (b1 := 2) (b2 := 12) dL_call_241 (lw_restore G I a z hW s) km_L_tryBack rfl k_962 k_963 rfl rfl (Nat.le_of_ble_eq_true rfl) (by decide) (fun _ _ _ q => q.elim) (fun r1 G1 I1 h2 => ?_)
  obtain ⟨e9, hP⟩ := h2
  generalize tv (fl_restore z s) (nI (gN (zK z s.toInt.toNat).1)) = r9 at e9 ⊢
  subst e9
  exact mx_iret dL_call_244 rfl rfl (⟨rfl, hP⟩)
