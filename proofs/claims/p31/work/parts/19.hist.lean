/-! THE CLASS History: a ring of fourteen States -/
def oHI (G : mx_G) (o : Nat) : Prop := mx_tg G o = 11 ∧ mx_rf G o 0 = o + 1 ∧ mx_tg G (o + 1) = 5 ∧ mx_ln G (o + 1) = 14 ∧ ∀ i, i < 14 → mx_rf G (o + 1) i = o + 2 + 5 * i ∧ oST G (o + 2 + 5 * i)
theorem oHI.sm {G G' : mx_G} {o : Nat} (h : oHI G o) (m : mx_sm G G') : oHI G' o := by
  obtain ⟨h1, h2, h3, h4, h5⟩ := h
  obtain ⟨q1, q2, q3⟩ := m.ar (by omega) (by omega) (by omega) (by decide) ⟨h2, h3, h4⟩
  refine ⟨m.tg h1 (by decide), q1, q2, q3, fun i hi => ?_⟩
  obtain ⟨e1, e2⟩ := h5 i hi
  exact ⟨((m (o + 1) (by omega)).2.2 i (by omega) (by omega)).trans e1, e2.sm m⟩
theorem nI_min {a b : Nat} (ha : a < 2 ^ 31) (hb : b < 2 ^ 31) : (if nI b < nI a then nI b else nI a) = nI (min a b) := by
  by_cases c : b < a
  · rw [if_pos ((nI_ltI hb ha).mpr c), Nat.min_eq_right (by omega)]
  · rw [if_neg (fun q => c ((nI_ltI hb ha).mp q)), Nat.min_eq_left (by omega)]

set_option maxHeartbeats 4000000 in
set_option maxRecDepth 100000 in
theorem ct_remember (G : mx_G) (I : mx_I) (o nx cnt : Nat) (hs : oHI G o) (hnx : nx < 14) (hcnt : cnt ≤ 14) (h1 : I o 1 = nI nx) (h2 : I o 2 = nI cnt) (q pt : Nat) (v : Gr) (hsq : oST G q) (hvq : stN I q v) (hrp : mx_rf G q 6 = pt) (hpt : mx_tg G pt = 12) (hd : o + 72 ≤ q ∨ q + 5 ≤ o) : mx_CT yX1_remember mX1_remember 2 0 0 [.ref o, .ref q] G I (fun rv Gz Iz => rv = none ∧ Gz = mx_uR G (o + 2 + 5 * nx) 6 pt ∧ stN Iz (o + 2 + 5 * nx) v ∧ Iz o 1 = nI ((nx + 1) % 14) ∧ Iz o 2 = nI (min (cnt + 1) 14) ∧ ∀ a, a ≠ o → (a < o + 2 + 5 * nx ∨ o + 2 + 5 * nx + 5 ≤ a) → Iz a = I a) (fun _ _ _ => False) := by
  refine mx_start (k := 0) (by decide) rfl rfl (fun h => nomatch h) (Nat.le_of_ble_eq_true rfl) ?_
  show mx_V mX1_remember mx_S0 2 0 0 0 [some (.ref o), some (.ref q)] [] G I (fun rv Gz Iz => rv = none ∧ Gz = mx_uR G (o + 2 + 5 * nx) 6 pt ∧ stN Iz (o + 2 + 5 * nx) v ∧ Iz o 1 = nI ((nx + 1) % 14) ∧ Iz o 2 = nI (min (cnt + 1) 14) ∧ ∀ a, a ≠ o → (a < o + 2 + 5 * nx ∨ o + 2 + 5 * nx + 5 ≤ a) → Iz a = I a) (fun _ _ _ => False)
  obtain ⟨hg0, hg1, hg2, hg3, hring⟩ := hs
  obtain ⟨hr1, hr2⟩ := hring nx hnx
  have hr3 := hr2.1
  refine mx_aload_n (i := 0) (hi := rfl) (hl := rfl) (hd := dX1_remember_0) ?_
  refine mx_getR (ci := 1) (k := 0) (r := (o + 1)) dX1_remember_1 k_219 (by decide) rfl (by assumption) (by assumption) (by omega) ?_
  refine mx_aload_n (i := 0) (hi := rfl) (hl := rfl) (hd := dX1_remember_4) ?_
  refine mx_getV (ci := 1) (k := 1) (nI nx) dX1_remember_5 k_220 (by decide) rfl (by assumption) h1 ?_
  refine mx_aald (r := (o + 2 + 5 * nx)) nx dX1_remember_8 (by assumption) (by decide) ⟨rfl, by omega, by omega⟩ (hr1) (by omega) ?_
  refine mx_aload_n (i := 1) (hi := rfl) (hl := rfl) (hd := dX1_remember_9) ?_
  refine mx_callV (ci := 6) (As := [.ref q]) (rest := []) (b1 := 0) (b2 := 0) dX1_remember_10 (ct_copyFrom G I (o + 2 + 5 * nx) q pt v hr2 hsq hvq (by omega) hrp hpt) km_X6_copyFrom rfl k_766 k_449 k_450 (by assumption) rfl rfl (Nat.le_of_ble_eq_true rfl) (by decide) (fun _ _ _ q => q.elim) (fun r1 G2 I2 h2 => ?_)
  obtain ⟨e9, m1, m2, m3⟩ := h2
  subst e9; subst m1
  have hg0 : mx_tg (mx_uR G (o + 2 + 5 * nx) 6 pt) o = 11 := hg0
  refine mx_aload_n (i := 0) (hi := rfl) (hl := rfl) (hd := dX1_remember_13) ?_
  refine mx_aload_n (i := 0) (hi := rfl) (hl := rfl) (hd := dX1_remember_14) ?_
  refine mx_getV (ci := 1) (k := 1) (nI nx) dX1_remember_15 k_220 (by decide) rfl (by assumption) (by rw [m3 o (by omega)]; exact h1) ?_
  refine mx_iconstN 1 dX1_remember_18 (by decide) ?_
  refine mx_iaddN dX1_remember_19 ?_
  refine mx_bipushN 14 dX1_remember_20 (by decide) ?_
  refine mx_iremN dX1_remember_22 (by omega) (by decide) ?_
  refine mx_putI (ci := 1) (k := 1) dX1_remember_23 k_220 (by decide) rfl rfl rfl rfl (by assumption) ?_
  refine mx_aload_n (i := 0) (hi := rfl) (hl := rfl) (hd := dX1_remember_26) ?_
  refine mx_aload_n (i := 0) (hi := rfl) (hl := rfl) (hd := dX1_remember_27) ?_
  refine mx_getV (ci := 1) (k := 2) (nI cnt) dX1_remember_28 k_221 (by decide) rfl (by assumption) (by rw [mx_u_at, if_neg (by omega)]; exact (by rw [m3 o (by omega)]; exact h2)) ?_
  refine mx_iconstN 1 dX1_remember_31 (by decide) ?_
  refine mx_iaddN dX1_remember_32 ?_
  refine mx_bipushN 14 dX1_remember_33 (by decide) ?_
  refine mx_mmin dX1_remember_35 km_min_X1_31 (Nat.le_of_ble_eq_true rfl) (by decide) ?_
  refine mx_top (nI_min (a := cnt + 1) (b := 14) (by omega) (by decide)) ?_
  refine mx_putI (ci := 1) (k := 2) dX1_remember_38 k_221 (by decide) rfl rfl rfl rfl (by assumption) ?_
  refine mx_vret dX1_remember_41 rfl (⟨rfl, rfl, ?_, ?_, ?_, ?_⟩)
  · exact m2.fr (I' := _) (lo := o) (hi := o + 1) (((mx_fr.rf _ _ _).u (by omega)).u (by omega)) (by omega)
  · rw [mx_u_at, if_neg (by omega), mx_u_at, if_pos ⟨rfl, rfl⟩]
  · rw [mx_u_at, if_pos ⟨rfl, rfl⟩]
  · intro a ha hb
    funext k
    rw [mx_u_at, if_neg (fun z => ha z.1), mx_u_at, if_neg (fun z => ha z.1), m3 a hb]

set_option maxHeartbeats 4000000 in
set_option maxRecDepth 100000 in
theorem ct_bringBack (G : mx_G) (I : mx_I) (o nx cnt : Nat) (hs : oHI G o) (hnx : nx < 14) (hcnt : cnt ≤ 14) (h1 : I o 1 = nI nx) (h2 : I o 2 = nI cnt) (hc1 : 1 ≤ cnt) (q pt : Nat) (v : Gr) (hsq : oST G q) (hvr : stN I (o + 2 + 5 * ((nx + 13) % 14)) v) (hrp : mx_rf G (o + 2 + 5 * ((nx + 13) % 14)) 6 = pt) (hpt : mx_tg G pt = 12) (hd : o + 72 ≤ q ∨ q + 5 ≤ o) : mx_CT yX1_bringBack mX1_bringBack 2 0 0 [.ref o, .ref q] G I (fun rv Gz Iz => rv = none ∧ Gz = mx_uR G q 6 pt ∧ stN Iz q v ∧ Iz o 1 = nI ((nx + 13) % 14) ∧ Iz o 2 = nI (cnt - 1) ∧ ∀ a, a ≠ o → (a < q ∨ q + 5 ≤ a) → Iz a = I a) (fun _ _ _ => False) := by
  refine mx_start (k := 0) (by decide) rfl rfl (fun h => nomatch h) (Nat.le_of_ble_eq_true rfl) ?_
  show mx_V mX1_bringBack mx_S0 2 0 0 0 [some (.ref o), some (.ref q)] [] G I (fun rv Gz Iz => rv = none ∧ Gz = mx_uR G q 6 pt ∧ stN Iz q v ∧ Iz o 1 = nI ((nx + 13) % 14) ∧ Iz o 2 = nI (cnt - 1) ∧ ∀ a, a ≠ o → (a < q ∨ q + 5 ≤ a) → Iz a = I a) (fun _ _ _ => False)
  obtain ⟨hg0, hg1, hg2, hg3, hring⟩ := hs
  obtain ⟨hr1, hr2⟩ := hring ((nx + 13) % 14) (by omega)
  have hr3 := hr2.1
  have hsq9 := hsq.1
  refine mx_aload_n (i := 0) (hi := rfl) (hl := rfl) (hd := dX1_bringBack_0) ?_
  refine mx_aload_n (i := 0) (hi := rfl) (hl := rfl) (hd := dX1_bringBack_1) ?_
  refine mx_getV (ci := 1) (k := 1) (nI nx) dX1_bringBack_2 k_220 (by decide) rfl (by assumption) h1 ?_
  refine mx_bipushN 14 dX1_bringBack_5 (by decide) ?_
  refine mx_iaddN dX1_bringBack_7 ?_
  refine mx_iconstN 1 dX1_bringBack_8 (by decide) ?_
  refine mx_isubN dX1_bringBack_9 (by omega) ?_
  refine mx_bipushN 14 dX1_bringBack_10 (by decide) ?_
  refine mx_iremN dX1_bringBack_12 (by omega) (by decide) ?_
  refine mx_top (y := nI ((nx + 13) % 14)) (congrArg nI (by omega)) ?_
  refine mx_putI (ci := 1) (k := 1) dX1_bringBack_13 k_220 (by decide) rfl rfl rfl rfl (by assumption) ?_
  refine mx_aload_n (i := 0) (hi := rfl) (hl := rfl) (hd := dX1_bringBack_16) ?_
  refine mx_dup (hva := rfl) (hd := dX1_bringBack_17) ?_
  refine mx_getV (ci := 1) (k := 2) (nI cnt) dX1_bringBack_18 k_221 (by decide) rfl (by assumption) (by rw [mx_u_at, if_neg (by omega)]; exact h2) ?_
  refine mx_iconstN 1 dX1_bringBack_21 (by decide) ?_
  refine mx_isubN dX1_bringBack_22 (by omega) ?_
  refine mx_putI (ci := 1) (k := 2) dX1_bringBack_23 k_221 (by decide) rfl rfl rfl rfl (by assumption) ?_
  refine mx_aload_n (i := 1) (hi := rfl) (hl := rfl) (hd := dX1_bringBack_26) ?_
  refine mx_aload_n (i := 0) (hi := rfl) (hl := rfl) (hd := dX1_bringBack_27) ?_
  refine mx_getR (ci := 1) (k := 0) (r := (o + 1)) dX1_bringBack_28 k_219 (by decide) rfl (by assumption) (by assumption) (by omega) ?_
  refine mx_aload_n (i := 0) (hi := rfl) (hl := rfl) (hd := dX1_bringBack_31) ?_
  refine mx_getV (ci := 1) (k := 1) (nI ((nx + 13) % 14)) dX1_bringBack_32 k_220 (by decide) rfl (by assumption) (by rw [mx_u_at, if_neg (by omega), mx_u_at, if_pos ⟨rfl, rfl⟩]) ?_
  refine mx_aald (r := (o + 2 + 5 * ((nx + 13) % 14))) ((nx + 13) % 14) dX1_bringBack_35 (by assumption) (by decide) ⟨rfl, by omega, by omega⟩ (hr1) (by omega) ?_
  refine mx_callV (ci := 6) (As := [.ref (o + 2 + 5 * ((nx + 13) % 14))]) (rest := []) (b1 := 0) (b2 := 0) dX1_bringBack_36 (ct_copyFrom G _ q (o + 2 + 5 * ((nx + 13) % 14)) pt v hsq hr2 (hvr.fr (lo := o) (hi := o + 1) (((mx_fr.rf _ _ _).u (by omega)).u (by omega)) (by omega)) (by omega) hrp hpt) km_X6_copyFrom rfl k_766 k_449 k_450 (by assumption) rfl rfl (Nat.le_of_ble_eq_true rfl) (by decide) (fun _ _ _ q => q.elim) (fun r1 G2 I2 h2 => ?_)
  obtain ⟨e9, m1, m2, m3⟩ := h2
  subst e9; subst m1
  refine mx_vret dX1_bringBack_39 rfl (⟨rfl, rfl, m2, ?_, ?_, ?_⟩)
  · rw [m3 o (by omega), mx_u_at, if_neg (by omega), mx_u_at, if_pos ⟨rfl, rfl⟩]
  · rw [m3 o (by omega), mx_u_at, if_pos ⟨rfl, rfl⟩]
  · intro a ha hb
    rw [m3 a hb]
    funext k
    rw [mx_u_at, if_neg (fun z => ha z.1), mx_u_at, if_neg (fun z => ha z.1)]

set_option maxHeartbeats 4000000 in
set_option maxRecDepth 100000 in
theorem ct_forgetAll (G : mx_G) (I : mx_I) (o : Nat) (hs : oHI G o) : mx_CTi yX1_forgetAll mX1_forgetAll 1 [.ref o] G I (fun rv I1 => rv = none ∧ I1 = mx_u I o 2 (nI 0)) := by
  refine mx_start (k := 0) (by decide) rfl rfl (fun h => nomatch h) (Nat.le_of_ble_eq_true rfl) ?_
  show mx_V mX1_forgetAll mx_S0 1 0 0 0 [some (.ref o)] [] G I (fun rv Gz Iz => (fun rv I1 => rv = none ∧ I1 = mx_u I o 2 (nI 0)) rv Iz ∧ Gz = G) (fun _ _ _ => False)
  obtain ⟨hg0, hg1, hg2, hg3, hring⟩ := hs
  refine mx_aload_n (i := 0) (hi := rfl) (hl := rfl) (hd := dX1_forgetAll_0) ?_
  refine mx_iconstN 0 dX1_forgetAll_1 (by decide) ?_
  refine mx_putI (ci := 1) (k := 2) dX1_forgetAll_2 k_221 (by decide) rfl rfl rfl rfl (by assumption) ?_
  exact mx_vret dX1_forgetAll_5 rfl (⟨⟨rfl, rfl⟩, rfl⟩)
