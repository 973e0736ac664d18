/-! THE REFERENCE: the methods that change -/
/-- only the diary and its length change -/
def rmF (I I1 : mx_I) (m : Nat) : Prop := (∀ b k, b ≠ m → b ≠ m + 5 → I1 b k = I b k) ∧ ∀ j, j ≠ 8 → I1 m j = I m j
theorem rmF.fr {I I1 : mx_I} {m : Nat} (h : rmF I I1 m) : mx_fr I I1 m (m + 23) := fun b hb => funext fun k => h.1 b k (by omega) (by omega)
theorem mW.hist {G : mx_G} {I I1 : mx_I} {m c : Nat} {hi : Nat → Vl} {z : Zs} (h : mW G I m z) (e : ∀ b k, ((b = m ∧ k = 2) ∨ b = m + 1 ∨ b = m + 3 ∨ b = m + 6 ∨ b = m + 7) → I1 b k = I b k) (hc : c ≤ 14) (h8 : I1 m 8 = nI c) (hd : ∀ j, j < c → vqF (fun k => I1 (m + 5) (143 * j + k)) (hi j)) : mW G I1 m (z.1, z.2.1, (c, hi), z.2.2.2) := by
  obtain ⟨h1, h2, ⟨h3, h4, h5, h6⟩, h7, -, h11⟩ := h
  exact ⟨h1, h2, ⟨h3, (e _ _ (by omega)).trans h4, fun i hi => (e _ _ (by omega)).trans (h5 i hi), h6⟩, h7.c (fun k _ => e _ _ (by omega)), ⟨hc, h8, hd⟩, fun s hs => ⟨(e _ _ (by omega)).trans (h11 s hs).1, fun q => ((h11 s hs).2 q).c (fun k _ => e _ _ (by omega))⟩⟩
theorem mt_fr {I Ir I2 : mx_I} {m : Nat} (a : mx_fr I Ir m (m + 23)) (b : mx_fr Ir I2 m (m + 23)) : mx_fr I I2 m (m + 23) := fun x hx => (b x hx).trans (a x hx)
theorem mt_f1 {I I1 : mx_I} {m k : Nat} (a : mx_fr I I1 (m + k) (m + k + 1)) (h : k < 23) : mx_fr I I1 m (m + 23) := fun x hx => a x (by omega)
theorem zpH_o {z : Zs} {j : Nat} (h : zC z < 14) (hj : j < zC z) : zH (zPush z) j = zH z j := by
  show (if zC z < 14 then (if j = zC z then zX z else zH z j) else (if j = 13 then zX z else zH z (j + 1))) = _
  rw [if_pos h, if_neg (by omega)]
theorem zpH_s {z : Zs} {j : Nat} (h : ¬ zC z < 14) (hj : j < 13) : zH (zPush z) j = zH z (j + 1) := by
  show (if zC z < 14 then (if j = zC z then zX z else zH z j) else (if j = 13 then zX z else zH z (j + 1))) = _
  rw [if_neg h, if_neg (by omega)]
theorem zpH_n {z : Zs} {j : Nat} (hc : zC z ≤ 14) (hj : j + 1 = min (zC z + 1) 14) : zH (zPush z) j = zX z := by
  show (if zC z < 14 then (if j = zC z then zX z else zH z j) else (if j = 13 then zX z else zH z (j + 1))) = _
  by_cases h : zC z < 14
  · rw [if_pos h, if_pos (by omega)]
  · rw [if_neg h, if_pos (by omega)]

set_option maxHeartbeats 4000000 in
set_option maxRecDepth 100000 in
theorem mt_remember (G : mx_G) (I : mx_I) (m : Nat) (z : Zs) (hW : mW G I m z) : mx_CTi yX10_remember mX10_remember 2 [.ref m] G I (fun rv I1 => rv = none ∧ mW G I1 m (zPush z) ∧ rmF I I1 m) := by
  refine mx_start (k := 1) (by decide) rfl rfl (fun h => nomatch h) (Nat.le_of_ble_eq_true rfl) ?_
  show mx_V mX10_remember mx_S0 2 0 0 0 [some (.ref m), none] [] G I (fun rv Gz Iz => (fun rv I1 => rv = none ∧ mW G I1 m (zPush z) ∧ rmF I I1 m) rv Iz ∧ Gz = G) (fun _ _ _ => False)
  have hW0 := hW
  have hvq := hW.2.2.2.1
  have hs0 : oMD G m := hW.1
  have hs1 := hs0
  have hW9 := hW
  obtain ⟨tgm, -, -, ⟨r_now, t_now, l_now⟩, -, ⟨r_diary, t_diary, l_diary⟩, -⟩ := hs1
  obtain ⟨-, hsz, ⟨hn110, h2, htx, htc⟩, ⟨hvp, hN24⟩, ⟨hc14, h8, hdi⟩, hke⟩ := hW9
  have hN24 : gN (zG z) ≤ 24 := hN24
  have hgw : wfG (zG z) := hvp.1.1
  have hP8 : gP (zG z) ≤ 8 := hgw.1
  have hgb : ∀ s, s < gN (zG z) → gF (zG z) s < 8 ∧ gK (zG z) s < 4 ∧ gT (zG z) s < 8 ∧ 1 ≤ gC (zG z) s ∧ gC (zG z) s ≤ 9 := hgw.2.2
  have hn40 := hvp.2.2.2.1
  have hc14' := hc14
  have J50 : ∀ (c : Nat) (I1 : mx_I), (c < 14) → (I1 m 8 = nI c) → (c + 1 = min (zC z + 1) 14) → (∀ j, j < c → vqF (fun k => I1 (m + 5) (143 * j + k)) (zH (zPush z) j)) → (rmF I I1 m) → mx_V mX10_remember mx_S0 2 0 0 50 [some (.ref m), none] [] G I1 (fun rv Gz Iz => (fun rv I1 => rv = none ∧ mW G I1 m (zPush z) ∧ rmF I I1 m) rv Iz ∧ Gz = G) (fun _ _ _ => False) := by
    intro c I1 hc14 h81 hcm hd1 hf1
    refine mx_aload_n (i := 0) (hi := rfl) (hl := rfl) (hd := dX10_remember_50) ?_
    refine mx_getR (ci := 10) (k := 5) (r := (m + 3)) dX10_remember_51 k_1018 (by decide) rfl (by assumption) (by assumption) (by omega) ?_
    refine mx_iconstN 0 dX10_remember_54 (by decide) ?_
    refine mx_aload_n (i := 0) (hi := rfl) (hl := rfl) (hd := dX10_remember_55) ?_
    refine mx_getR (ci := 10) (k := 7) (r := (m + 5)) dX10_remember_56 k_1020 (by decide) rfl (by assumption) (by assumption) (by omega) ?_
    refine mx_sipushN 143 dX10_remember_59 (by decide) ?_
    refine mx_aload_n (i := 0) (hi := rfl) (hl := rfl) (hd := dX10_remember_62) ?_
    refine mx_getV (ci := 10) (k := 8) (nI c) dX10_remember_63 k_1021 (by decide) rfl (by assumption) h81 ?_
    refine mx_imulN dX10_remember_66 ?_
    refine mx_callSi (As := [.ref (m + 3), .int (nI 0), .ref (m + 5), .int (nI (143 * c))]) (rest := []) dX10_remember_67 (mt_copyGraph G I1 (m + 3) 0 (m + 5) (143 * c) t_now t_diary (by omega) (by omega) (by omega) (by omega) (by omega)) km_X10_copyGraph rfl k_1190 k_1191 rfl rfl (Nat.le_of_ble_eq_true rfl) (by decide) (fun r1 I2 h2 => ?_)
    obtain ⟨e9, q1, q2⟩ := h2
    subst e9
    have h82 : I2 m 8 = nI c := (q2 _ _ (by omega)).trans h81
    refine mx_aload_n (i := 0) (hi := rfl) (hl := rfl) (hd := dX10_remember_70) ?_
    refine mx_dup (hva := rfl) (hd := dX10_remember_71) ?_
    refine mx_getV (ci := 10) (k := 8) (nI c) dX10_remember_72 k_1021 (by decide) rfl (by assumption) h82 ?_
    refine mx_iconstN 1 dX10_remember_75 (by decide) ?_
    refine mx_iaddN dX10_remember_76 ?_
    refine mx_putI (ci := 10) (k := 8) dX10_remember_77 k_1021 (by decide) rfl rfl rfl rfl (by assumption) ?_
    refine mx_vret dX10_remember_80 rfl (⟨⟨rfl, ?_, ?_⟩, rfl⟩)
    · refine hW0.hist (fun b k q => ?_) (by omega) (by rw [mx_u_at, if_pos ⟨rfl, rfl⟩, hcm]) (fun j hj => ?_)
      · rw [mx_u_at, if_neg (by omega), q2 _ _ (by omega)]
        by_cases e : b = m
        · rw [e]; exact hf1.2 k (by omega)
        · exact hf1.1 b k e (by omega)
      · show vqF _ (zH (zPush z) j)
        by_cases e : j = c
        · rw [e, zpH_n hc14' hcm]
          refine hvq.c (fun k hk => ?_)
          show mx_u I2 m 8 _ (m + 5) (143 * c + k) = I (m + 3) k
          rw [mx_u_at, if_neg (by omega), q1 k hk, Nat.zero_add]
          exact hf1.1 _ _ (by omega) (by omega)
        · refine (hd1 j (by omega)).c (fun k hk => ?_)
          show mx_u I2 m 8 _ (m + 5) (143 * j + k) = I1 (m + 5) (143 * j + k)
          rw [mx_u_at, if_neg (by omega), q2 _ _ (by omega)]
    · exact ⟨fun b k h1 h2 => by rw [mx_u_at, if_neg (by omega), q2 _ _ (by omega)]; exact hf1.1 b k h1 h2, fun j hj => by rw [mx_u_at, if_neg (by omega), q2 _ _ (by omega)]; exact hf1.2 j hj⟩
  refine mx_aload_n (i := 0) (hi := rfl) (hl := rfl) (hd := dX10_remember_0) ?_
  refine mx_getV (ci := 10) (k := 8) (nI (zC z)) dX10_remember_1 k_1021 (by decide) rfl (by assumption) h8 ?_
  refine mx_bipushN 14 dX10_remember_4 (by decide) ?_
  refine mx_cmpN_ne 50 dX10_remember_6 (by decide) (by omega) (by omega) (fun c6 => ?_) (fun c6 => ?_)
  · skip
    exact J50 (zC z) I (by omega) h8 (by omega) (fun j hj => by rw [zpH_o (by omega) hj]; exact hdi j hj) ⟨fun _ _ _ _ => rfl, fun _ _ => rfl⟩
  · skip
    have L11 : ∀ (fq : Nat) (k : Nat) (I1 : mx_I), 1859 - k < fq → (k ≤ 1859) → (∀ i, i < k → I1 (m + 5) i = I (m + 5) (i + 143)) → (∀ i, k ≤ i → I1 (m + 5) i = I (m + 5) i) → (∀ b i, b ≠ m + 5 → I1 b i = I b i) → mx_V mX10_remember mx_S0 2 0 0 11 [some (.ref m), some (.int (nI k))] [] G I1 (fun rv Gz Iz => (fun rv I1 => rv = none ∧ mW G I1 m (zPush z) ∧ rmF I I1 m) rv Iz ∧ Gz = G) (fun _ _ _ => False) := by
      intro fq
      induction fq with
      | zero => intro k I1 hfu; exact absurd hfu (Nat.not_lt_zero _)
      | succ fq ih =>
        intro k I1 hfu hk hk1 hk2 hk3
        refine mx_iload_n (i := 1) (hi := rfl) (hl := rfl) (hd := dX10_remember_11) ?_
        refine mx_sipushN 1859 dX10_remember_12 (by decide) ?_
        refine mx_cmpN_ge 40 dX10_remember_15 (by decide) (by omega) (by omega) (fun c15 => ?_) (fun c15 => ?_)
        · skip
          refine mx_aload_n (i := 0) (hi := rfl) (hl := rfl) (hd := dX10_remember_40) ?_
          refine mx_dup (hva := rfl) (hd := dX10_remember_41) ?_
          refine mx_getV (ci := 10) (k := 8) (nI 14) dX10_remember_42 k_1021 (by decide) rfl (by assumption) ((hk3 _ _ (by omega)).trans (h8.trans (congrArg nI c6))) ?_
          refine mx_iconstN 1 dX10_remember_45 (by decide) ?_
          refine mx_isubN dX10_remember_46 (by omega) ?_
          refine mx_putI (ci := 10) (k := 8) dX10_remember_47 k_1021 (by decide) rfl rfl rfl rfl (by assumption) ?_
          refine mx_leS (ls' := [some (.ref m), none]) ⟨rfl, trivial⟩ ?_
          refine J50 13 _ (by omega) (by rw [mx_u_at, if_pos ⟨rfl, rfl⟩]) (by omega) (fun j hj => ?_) ⟨fun b k h1 h2 => by rw [mx_u_at, if_neg (by omega)]; exact hk3 b k h2, fun j hj => by rw [mx_u_at, if_neg (by omega)]; exact hk3 _ _ (by omega)⟩
          rw [zpH_s (by omega) hj]
          refine (hdi (j + 1) (by omega)).c (fun k hk => ?_)
          show mx_u I1 m 8 _ (m + 5) (143 * j + k) = I (m + 5) (143 * (j + 1) + k)
          rw [mx_u_at, if_neg (by omega), hk1 _ (by omega)]
          exact congrArg _ (by omega)
        · skip
          refine mx_aload_n (i := 0) (hi := rfl) (hl := rfl) (hd := dX10_remember_18) ?_
          refine mx_getR (ci := 10) (k := 7) (r := (m + 5)) dX10_remember_19 k_1020 (by decide) rfl (by assumption) (by assumption) (by omega) ?_
          refine mx_iload_n (i := 1) (hi := rfl) (hl := rfl) (hd := dX10_remember_22) ?_
          refine mx_aload_n (i := 0) (hi := rfl) (hl := rfl) (hd := dX10_remember_23) ?_
          refine mx_getR (ci := 10) (k := 7) (r := (m + 5)) dX10_remember_24 k_1020 (by decide) rfl (by assumption) (by assumption) (by omega) ?_
          refine mx_iload_n (i := 1) (hi := rfl) (hl := rfl) (hd := dX10_remember_27) ?_
          refine mx_sipushN 143 dX10_remember_28 (by decide) ?_
          refine mx_iaddN dX10_remember_31 ?_
          refine mx_ialdV (k + 143) (I (m + 5) (k + 143) : Int32) dX10_remember_32 (by assumption) ⟨rfl, by omega, by omega⟩ (hk2 _ (by omega)) ?_
          refine mx_iast k dX10_remember_33 (by assumption) ⟨rfl, by omega, by omega⟩ ?_
          refine mx_iincE (i := 1) (ls' := [some (.ref m), some (.int (nI (k + 1)))]) 1 dX10_remember_34 rfl (by decide) (by decide) rfl rfl ?_
          refine mx_goto (tgt := 11) dX10_remember_37 (by decide) ?_
          exact ih (k + 1) _ (by omega) (by omega) (fun i hi => by rw [mx_u_at]; split; (next e => rw [e.2]); (next e => exact hk1 i (by omega))) (fun i hi => by rw [mx_u_at, if_neg (by omega)]; exact hk2 i (by omega)) (fun b i hb => by rw [mx_u_at, if_neg (by omega)]; exact hk3 b i hb)
    refine mx_iconstN 0 dX10_remember_9 (by decide) ?_
    refine mx_istoreE_n (i := 1) (ls' := [some (.ref m), some (.int (nI 0))]) (hi := rfl) (hd := dX10_remember_10) (hn := by decide) (hok := rfl) (hls := rfl) ?_
    exact L11 _ 0 _ (Nat.lt_succ_self _) (Nat.zero_le _) (fun i hi => absurd hi (Nat.not_lt_zero i)) (fun i _ => rfl) (fun b i _ => rfl)

theorem gaF.people {f f' : Nat → Int32} {v : Gr} (h : gaF f v) (h8 : gP v < 8) (e0 : f' 0 = nI (gP v + 1)) (e : ∀ k, k ≠ 0 → f' k = f k) : gaF f' (gP v + 1, v.2) := by
  obtain ⟨⟨h1, h2, h3⟩, h4, h5, h6⟩ := h
  refine ⟨⟨by show gP v + 1 ≤ 8; omega, h2, h3⟩, e0, (e 1 (by decide)).trans h5, fun s hs => ?_⟩
  obtain ⟨a, b, c, d⟩ := h6 s hs
  exact ⟨(e _ (by omega)).trans a, (e _ (by omega)).trans b, (e _ (by omega)).trans c, (e _ (by omega)).trans d⟩

set_option maxHeartbeats 4000000 in
set_option maxRecDepth 100000 in
theorem mt_addPerson (G : mx_G) (I : mx_I) (m : Nat) (z : Zs) (hW : mW G I m z) : mx_CTi yX10_addPerson mX10_addPerson 3 [.ref m] G I (fun rv I1 => I1 m 0 = nI (fl_addPerson z - 2) ∧ mx_fr I I1 m (m + 23) ∧ ((fl_addPerson z - 2) = 0 → rv = some (.int (nI (gP (zG z)))) ∧ mW G I1 m (nx_addPerson z)) ∧ (¬ (fl_addPerson z - 2) = 0 → (∃ w9, rv = some (.int w9)) ∧ mW G I1 m z)) := by
  refine mx_start (k := 0) (by decide) rfl rfl (fun h => nomatch h) (Nat.le_of_ble_eq_true rfl) ?_
  show mx_V mX10_addPerson mx_S0 3 0 0 0 [some (.ref m)] [] G I (fun rv Gz Iz => (fun rv I1 => I1 m 0 = nI (fl_addPerson z - 2) ∧ mx_fr I I1 m (m + 23) ∧ ((fl_addPerson z - 2) = 0 → rv = some (.int (nI (gP (zG z)))) ∧ mW G I1 m (nx_addPerson z)) ∧ (¬ (fl_addPerson z - 2) = 0 → (∃ w9, rv = some (.int w9)) ∧ mW G I1 m z)) rv Iz ∧ Gz = G) (fun _ _ _ => False)
  have hs0 : oMD G m := hW.1
  have hs1 := hs0
  have hW9 := hW
  obtain ⟨tgm, -, -, ⟨r_now, t_now, l_now⟩, -⟩ := hs1
  obtain ⟨-, hsz, ⟨hn110, h2, htx, htc⟩, ⟨hvp, hN24⟩, ⟨hc14, h8, hdi⟩, hke⟩ := hW9
  have hN24 : gN (zG z) ≤ 24 := hN24
  have hgw : wfG (zG z) := hvp.1.1
  have hP8 : gP (zG z) ≤ 8 := hgw.1
  have hgb : ∀ s, s < gN (zG z) → gF (zG z) s < 8 ∧ gK (zG z) s < 4 ∧ gT (zG z) s < 8 ∧ 1 ≤ gC (zG z) s ∧ gC (zG z) s ≤ 9 := hgw.2.2
  have hn40 := hvp.2.2.2.1
  have J17 : ∀ (_ : Unit), mx_V mX10_addPerson mx_S0 3 0 0 17 [some (.ref m)] [.int (nI (fl_addPerson z - 2)), .ref m] G I (fun rv Gz Iz => (fun rv I1 => I1 m 0 = nI (fl_addPerson z - 2) ∧ mx_fr I I1 m (m + 23) ∧ ((fl_addPerson z - 2) = 0 → rv = some (.int (nI (gP (zG z)))) ∧ mW G I1 m (nx_addPerson z)) ∧ (¬ (fl_addPerson z - 2) = 0 → (∃ w9, rv = some (.int w9)) ∧ mW G I1 m z)) rv Iz ∧ Gz = G) (fun _ _ _ => False) := by
    intro _ 
    refine mx_callVi (ci := 10) (As := [.int (nI (fl_addPerson z - 2))]) (rest := []) dX10_addPerson_17 (mt_refused G I m hs0 (fl_addPerson z - 2) (by unfold fl_addPerson; (repeat' split) <;> omega)) km_X10_refused rfl k_1122 k_1124 k_29 (by assumption) rfl rfl (Nat.le_of_ble_eq_true rfl) (by decide) (fun r1 Ir h2 => ?_)
    obtain ⟨e9, er⟩ := h2
    subst e9
    have hr0 : Ir m 0 = nI (fl_addPerson z - 2) := by rw [er, mx_u_at, if_pos ⟨rfl, rfl⟩]
    have hrf : mx_fr I Ir m (m + 23) := by rw [er]; exact (mx_fr.rf _ _ _).u (by omega)
    have hW1 : mW G Ir m z := hW.k (fun b k q => by rw [er, mx_u_at, if_neg (by omega)])
    clear er
    refine mx_ifB_eq 25 dX10_addPerson_20 (by decide) (fun c20 => ?_) (fun c20 => ?_)
    · skip
      have hm0 : fl_addPerson z - 2 = 0 := by omega
      have k1 : gP (zG z) < 8 := by
        unfold fl_addPerson at hm0
        (repeat' split at hm0) <;> first | omega | (simp_all; done) | (refine ⟨?_, ?_⟩ <;> omega)
      clear hsz h2 htx htc hvp hdi hke h8
      have hs0 : oMD G m := hW1.1
      have hs1 := hs0
      have hW9 := hW1
      obtain ⟨tgm, -, -, ⟨r_now, t_now, l_now⟩, -⟩ := hs1
      obtain ⟨-, hsz, ⟨hn110, h2, htx, htc⟩, ⟨hvp, hN24⟩, ⟨hc14, h8, hdi⟩, hke⟩ := hW9
      have hN24 : gN (zG z) ≤ 24 := hN24
      have hgw : wfG (zG z) := hvp.1.1
      have hP8 : gP (zG z) ≤ 8 := hgw.1
      have hgb : ∀ s, s < gN (zG z) → gF (zG z) s < 8 ∧ gK (zG z) s < 4 ∧ gT (zG z) s < 8 ∧ 1 ≤ gC (zG z) s ∧ gC (zG z) s ≤ 9 := hgw.2.2
      have hn40 := hvp.2.2.2.1
      refine mx_aload_n (i := 0) (hi := rfl) (hl := rfl) (hd := dX10_addPerson_25) ?_
      refine mx_callVi (ci := 10) (As := []) (rest := []) dX10_addPerson_26 (mt_remember G Ir m z hW1) km_X10_remember rfl k_1266 k_1268 k_49 (by assumption) rfl rfl (Nat.le_of_ble_eq_true rfl) (by decide) (fun r3 I2 h4 => ?_)
      obtain ⟨e9, hW2, hf2⟩ := h4
      subst e9
      have hr2 : I2 m 0 = nI (fl_addPerson z - 2) := (hf2.2 0 (by decide)).trans hr0
      have hrf2 : mx_fr I I2 m (m + 23) := mt_fr hrf hf2.fr
      clear hsz h2 htx htc hvp hdi hke h8
      have hs0 : oMD G m := hW2.1
      have hs1 := hs0
      have hW9 := hW2
      obtain ⟨tgm, -, -, ⟨r_now, t_now, l_now⟩, -⟩ := hs1
      obtain ⟨-, hsz, ⟨hn110, h2, htx, htc⟩, ⟨hvp, hN24⟩, ⟨hc14, h8, hdi⟩, hke⟩ := hW9
      have hN24 : gN (zG z) ≤ 24 := hN24
      have hgw : wfG (zG z) := hvp.1.1
      have hP8 : gP (zG z) ≤ 8 := hgw.1
      have hgb : ∀ s, s < gN (zG z) → gF (zG z) s < 8 ∧ gK (zG z) s < 4 ∧ gT (zG z) s < 8 ∧ 1 ≤ gC (zG z) s ∧ gC (zG z) s ≤ 9 := hgw.2.2
      have hn40 := hvp.2.2.2.1
      have hvp : vpF (I2 (m + 3)) (zX z) := hvp
      refine mx_aload_n (i := 0) (hi := rfl) (hl := rfl) (hd := dX10_addPerson_29) ?_
      refine mx_getR (ci := 10) (k := 5) (r := (m + 3)) dX10_addPerson_30 k_1018 (by decide) rfl (by assumption) (by assumption) (by omega) ?_
      refine mx_iconstN 0 dX10_addPerson_33 (by decide) ?_
      refine mx_dup2 (hva := rfl) (hvb := rfl) (hd := dX10_addPerson_34) ?_
      refine mx_ialdV 0 (nI (gP (zG z))) dX10_addPerson_35 (by assumption) ⟨rfl, by omega, by omega⟩ hvp.1.2.1 ?_
      refine mx_iconstN 1 dX10_addPerson_36 (by decide) ?_
      refine mx_iaddN dX10_addPerson_37 ?_
      refine mx_iast 0 dX10_addPerson_38 (by assumption) ⟨rfl, by omega, by omega⟩ ?_
      refine mx_aload_n (i := 0) (hi := rfl) (hl := rfl) (hd := dX10_addPerson_39) ?_
      refine mx_getR (ci := 10) (k := 5) (r := (m + 3)) dX10_addPerson_40 k_1018 (by decide) rfl (by assumption) (by assumption) (by omega) ?_
      refine mx_iconstN 0 dX10_addPerson_43 (by decide) ?_
      refine mx_ialdV 0 (nI ((gP (zG z)) + 1)) dX10_addPerson_44 (by assumption) ⟨rfl, by omega, by omega⟩ (by rw [mx_u_at, if_pos ⟨rfl, rfl⟩]) ?_
      refine mx_iconstN 1 dX10_addPerson_45 (by decide) ?_
      refine mx_isubN dX10_addPerson_46 (by omega) ?_
      exact mx_iret dX10_addPerson_47 rfl rfl (⟨⟨by rw [mx_u_at, if_neg (by omega)]; exact hr2, hrf2.u (by omega), fun _ => ⟨rfl, hW2.st (x := ((gP (zG z) + 1, (zG z).2), (zX z).2)) (fun b k q => by rw [mx_u_at, if_neg (by omega)]) ((hW2.2.2.2.1).g (hvp.1.people k1 (by rw [mx_u_at, if_pos ⟨rfl, rfl⟩]) (fun k hk => by rw [mx_u_at, if_neg (by omega)])) hN24 (fun k hk => by rw [mx_u_at, if_neg (by omega)]))⟩, fun z9 => absurd hm0 z9⟩, rfl⟩)
    · skip
      refine mx_iconstN 0 dX10_addPerson_23 (by decide) ?_
      exact mx_iret dX10_addPerson_24 rfl rfl (⟨⟨hr0, hrf, fun z9 => absurd z9 (by omega), fun _ => ⟨⟨_, rfl⟩, hW1⟩⟩, rfl⟩)
  refine mx_aload_n (i := 0) (hi := rfl) (hl := rfl) (hd := dX10_addPerson_0) ?_
  refine mx_aload_n (i := 0) (hi := rfl) (hl := rfl) (hd := dX10_addPerson_1) ?_
  refine mx_getR (ci := 10) (k := 5) (r := (m + 3)) dX10_addPerson_2 k_1018 (by decide) rfl (by assumption) (by assumption) (by omega) ?_
  refine mx_iconstN 0 dX10_addPerson_5 (by decide) ?_
  refine mx_ialdV 0 (nI (gP (zG z))) dX10_addPerson_6 (by assumption) ⟨rfl, by omega, by omega⟩ hvp.1.2.1 ?_
  refine mx_bipushN 8 dX10_addPerson_7 (by decide) ?_
  refine mx_cmpN_ne 16 dX10_addPerson_9 (by decide) (by omega) (by omega) (fun c9 => ?_) (fun c9 => ?_)
  · skip
    refine mx_iconstN 0 dX10_addPerson_16 (by decide) ?_
    refine mx_top (y := nI (fl_addPerson z - 2)) (congrArg nI (by unfold fl_addPerson; (repeat' split) <;> first | omega | simp_all)) ?_
    exact J17 ()
  · skip
    refine mx_iconstN 1 dX10_addPerson_12 (by decide) ?_
    refine mx_goto (tgt := 17) dX10_addPerson_13 (by decide) ?_
    refine mx_top (y := nI (fl_addPerson z - 2)) (congrArg nI (by unfold fl_addPerson; (repeat' split) <;> first | omega | simp_all)) ?_
    exact J17 ()

def kD (f : Nat) : Nat := if f = 3 then 2 else f
theorem kD_le {f : Nat} (h : f ≤ 3) : kD f ≤ 3 := by
  unfold kD; split <;> omega
theorem kD_0 {f : Nat} : kD f = 0 ↔ f = 0 := by
  unfold kD; split <;> omega
theorem kD_turn (z : Zs) (s : Int32) : (if ¬ (0 ≤ s.toInt ∧ s.toInt < (gN (zG z) : Int)) then 1 else if gIx (zG z) (gT (zG z) s.toInt.toNat) (gK (zG z) s.toInt.toNat) (gF (zG z) s.toInt.toNat) = none then 0 else 2) = kD (fl_turn z s) := by
  unfold fl_turn
  split
  · rfl
  · split <;> rfl
theorem fl_exchange_0 {k l : Int32} (h : fl_exchange k l - 1 = 0) : (0 ≤ k.toInt ∧ k.toInt < 4) ∧ (0 ≤ l.toInt ∧ l.toInt < 4) := by
  unfold fl_exchange at h
  split at h
  · cases h
  · next c => exact Classical.not_not.mp c

set_option maxHeartbeats 4000000 in
set_option maxRecDepth 100000 in
theorem mt_addStep (G : mx_G) (I : mx_I) (m : Nat) (z : Zs) (hW : mW G I m z) (p k q c : Int32) : mx_CTi yX10_addStep mX10_addStep 4 [.ref m, .int p, .int k, .int q, .int c] G I (fun rv I1 => I1 m 0 = nI (gWhy (zG z) p k q c) ∧ mx_fr I I1 m (m + 23) ∧ ((gWhy (zG z) p k q c) = 0 → rv = some (.int (nI (gN (zG z)))) ∧ mW G I1 m (nx_addStep z p.toInt.toNat k.toInt.toNat q.toInt.toNat c.toInt.toNat)) ∧ (¬ (gWhy (zG z) p k q c) = 0 → (∃ w9, rv = some (.int w9)) ∧ mW G I1 m z)) := by
  refine mx_start (k := 0) (by decide) rfl rfl (fun h => nomatch h) (Nat.le_of_ble_eq_true rfl) ?_
  show mx_V mX10_addStep mx_S0 4 0 0 0 [some (.ref m), some (.int p), some (.int k), some (.int q), some (.int c)] [] G I (fun rv Gz Iz => (fun rv I1 => I1 m 0 = nI (gWhy (zG z) p k q c) ∧ mx_fr I I1 m (m + 23) ∧ ((gWhy (zG z) p k q c) = 0 → rv = some (.int (nI (gN (zG z)))) ∧ mW G I1 m (nx_addStep z p.toInt.toNat k.toInt.toNat q.toInt.toNat c.toInt.toNat)) ∧ (¬ (gWhy (zG z) p k q c) = 0 → (∃ w9, rv = some (.int w9)) ∧ mW G I1 m z)) rv Iz ∧ Gz = G) (fun _ _ _ => False)
  have hs0 : oMD G m := hW.1
  have hs1 := hs0
  have hW9 := hW
  obtain ⟨tgm, -, -, ⟨r_now, t_now, l_now⟩, -⟩ := hs1
  obtain ⟨-, hsz, ⟨hn110, h2, htx, htc⟩, ⟨hvp, hN24⟩, ⟨hc14, h8, hdi⟩, hke⟩ := hW9
  have hN24 : gN (zG z) ≤ 24 := hN24
  have hgw : wfG (zG z) := hvp.1.1
  have hP8 : gP (zG z) ≤ 8 := hgw.1
  have hgb : ∀ s, s < gN (zG z) → gF (zG z) s < 8 ∧ gK (zG z) s < 4 ∧ gT (zG z) s < 8 ∧ 1 ≤ gC (zG z) s ∧ gC (zG z) s ≤ 9 := hgw.2.2
  have hn40 := hvp.2.2.2.1
  refine mx_aload_n (i := 0) (hi := rfl) (hl := rfl) (hd := dX10_addStep_0) ?_
  refine mx_aload_n (i := 0) (hi := rfl) (hl := rfl) (hd := dX10_addStep_1) ?_
  refine mx_getR (ci := 10) (k := 5) (r := (m + 3)) dX10_addStep_2 k_1018 (by decide) rfl (by assumption) (by assumption) (by omega) ?_
  refine mx_iload_n (i := 1) (hi := rfl) (hl := rfl) (hd := dX10_addStep_5) ?_
  refine mx_iload_n (i := 2) (hi := rfl) (hl := rfl) (hd := dX10_addStep_6) ?_
  refine mx_iload_n (i := 3) (hi := rfl) (hl := rfl) (hd := dX10_addStep_7) ?_
  refine mx_iload (i := 4) (hl := rfl) (hd := dX10_addStep_8) ?_
  refine mx_callSp (As := [.ref (m + 3), .int p, .int k, .int q, .int c]) (rest := [.ref m]) dX10_addStep_10 (mt_whyNotAdd G I (m + 3) (zG z) t_now l_now hvp.1 hN24 p k q c) km_X10_whyNotAdd rfl k_1274 k_1275 rfl rfl (Nat.le_of_ble_eq_true rfl) (by decide) ?_
  refine mx_callVi (ci := 10) (As := [.int (nI (gWhy (zG z) p k q c))]) (rest := []) dX10_addStep_13 (mt_refused G I m hs0 (gWhy (zG z) p k q c) (Nat.lt_of_le_of_lt (gWhy_le _ _ _ _ _) (by decide))) km_X10_refused rfl k_1122 k_1124 k_29 (by assumption) rfl rfl (Nat.le_of_ble_eq_true rfl) (by decide) (fun r1 Ir h2 => ?_)
  obtain ⟨e9, er⟩ := h2
  subst e9
  have hr0 : Ir m 0 = nI (gWhy (zG z) p k q c) := by rw [er, mx_u_at, if_pos ⟨rfl, rfl⟩]
  have hrf : mx_fr I Ir m (m + 23) := by rw [er]; exact (mx_fr.rf _ _ _).u (by omega)
  have hW1 : mW G Ir m z := hW.k (fun b k q => by rw [er, mx_u_at, if_neg (by omega)])
  clear er
  refine mx_ifB_eq 21 dX10_addStep_16 (by decide) (fun c16 => ?_) (fun c16 => ?_)
  · skip
    have hm0 : gWhy (zG z) p k q c = 0 := by omega
    obtain ⟨k1, k2, k3, k4, k5, k6⟩ := gWhy_0 hm0
    clear hsz h2 htx htc hvp hdi hke h8
    have hs0 : oMD G m := hW1.1
    have hs1 := hs0
    have hW9 := hW1
    obtain ⟨tgm, -, -, ⟨r_now, t_now, l_now⟩, -⟩ := hs1
    obtain ⟨-, hsz, ⟨hn110, h2, htx, htc⟩, ⟨hvp, hN24⟩, ⟨hc14, h8, hdi⟩, hke⟩ := hW9
    have hN24 : gN (zG z) ≤ 24 := hN24
    have hgw : wfG (zG z) := hvp.1.1
    have hP8 : gP (zG z) ≤ 8 := hgw.1
    have hgb : ∀ s, s < gN (zG z) → gF (zG z) s < 8 ∧ gK (zG z) s < 4 ∧ gT (zG z) s < 8 ∧ 1 ≤ gC (zG z) s ∧ gC (zG z) s ≤ 9 := hgw.2.2
    have hn40 := hvp.2.2.2.1
    refine mx_aload_n (i := 0) (hi := rfl) (hl := rfl) (hd := dX10_addStep_21) ?_
    refine mx_callVi (ci := 10) (As := []) (rest := []) dX10_addStep_22 (mt_remember G Ir m z hW1) km_X10_remember rfl k_1266 k_1268 k_49 (by assumption) rfl rfl (Nat.le_of_ble_eq_true rfl) (by decide) (fun r3 I2 h4 => ?_)
    obtain ⟨e9, hW2, hf2⟩ := h4
    subst e9
    have hr2 : I2 m 0 = nI (gWhy (zG z) p k q c) := (hf2.2 0 (by decide)).trans hr0
    have hrf2 : mx_fr I I2 m (m + 23) := mt_fr hrf hf2.fr
    clear hsz h2 htx htc hvp hdi hke h8
    have hs0 : oMD G m := hW2.1
    have hs1 := hs0
    have hW9 := hW2
    obtain ⟨tgm, -, -, ⟨r_now, t_now, l_now⟩, -⟩ := hs1
    obtain ⟨-, hsz, ⟨hn110, h2, htx, htc⟩, ⟨hvp, hN24⟩, ⟨hc14, h8, hdi⟩, hke⟩ := hW9
    have hN24 : gN (zG z) ≤ 24 := hN24
    have hgw : wfG (zG z) := hvp.1.1
    have hP8 : gP (zG z) ≤ 8 := hgw.1
    have hgb : ∀ s, s < gN (zG z) → gF (zG z) s < 8 ∧ gK (zG z) s < 4 ∧ gT (zG z) s < 8 ∧ 1 ≤ gC (zG z) s ∧ gC (zG z) s ≤ 9 := hgw.2.2
    have hn40 := hvp.2.2.2.1
    have hvp : vpF (I2 (m + 3)) (zX z) := hvp
    refine mx_aload_n (i := 0) (hi := rfl) (hl := rfl) (hd := dX10_addStep_25) ?_
    refine mx_getR (ci := 10) (k := 5) (r := (m + 3)) dX10_addStep_26 k_1018 (by decide) rfl (by assumption) (by assumption) (by omega) ?_
    refine mx_iload_n (i := 1) (hi := rfl) (hl := rfl) (hd := dX10_addStep_29) ?_
    refine mx_iload_n (i := 2) (hi := rfl) (hl := rfl) (hd := dX10_addStep_30) ?_
    refine mx_iload_n (i := 3) (hi := rfl) (hl := rfl) (hd := dX10_addStep_31) ?_
    refine mx_iload (i := 4) (hl := rfl) (hd := dX10_addStep_32) ?_
    refine mx_callSi (As := [.ref (m + 3), .int p, .int k, .int q, .int c]) (rest := []) dX10_addStep_34 ((mt_add G I2 (m + 3) (zG z) t_now l_now hvp.1 p.toInt.toNat k.toInt.toNat q.toInt.toNat c.toInt.toNat (by omega) (by omega) (by omega) (by omega) hN24).eq (by rw [mx_nn k1.1.1, mx_nn k3.1, mx_nn k1.2.1, mx_nn (by omega : 0 ≤ c.toInt)])) km_X10_add rfl k_1183 k_1184 rfl rfl (Nat.le_of_ble_eq_true rfl) (by decide) (fun r5 I3 h6 => ?_)
    obtain ⟨e9, n1, n2, n3⟩ := h6
    subst e9
    exact mx_iret dX10_addStep_37 rfl rfl (⟨⟨(by rw [n3 m (by omega)]; exact hr2), mt_fr hrf2 (mt_f1 n3 (by decide)), fun _ => ⟨rfl, hW2.st (x := (gPut (zG z) p.toInt.toNat k.toInt.toNat q.toInt.toNat c.toInt.toNat, (zX z).2)) (fun b k q => by rw [n3 b (by omega)]) ((hW2.2.2.2.1).g n1 (by show gN (zG z) + 1 ≤ 24; omega) n2)⟩, fun z9 => absurd hm0 z9⟩, rfl⟩)
  · skip
    refine mx_iconstN 0 dX10_addStep_19 (by decide) ?_
    exact mx_iret dX10_addStep_20 rfl rfl (⟨⟨hr0, hrf, fun z9 => absurd z9 (by omega), fun _ => ⟨⟨_, rfl⟩, hW1⟩⟩, rfl⟩)

set_option maxHeartbeats 4000000 in
set_option maxRecDepth 100000 in
theorem mt_removeStep (G : mx_G) (I : mx_I) (m : Nat) (z : Zs) (hW : mW G I m z) (s : Int32) : mx_CTi yX10_removeStep mX10_removeStep 4 [.ref m, .int s] G I (fun rv I1 => I1 m 0 = nI (fl_one (gN (zG z)) s) ∧ mx_fr I I1 m (m + 23) ∧ ((fl_one (gN (zG z)) s) = 0 → rv = some (.int (nI (gN (zG z) - 1))) ∧ mW G I1 m (nx_removeStep z s.toInt.toNat)) ∧ (¬ (fl_one (gN (zG z)) s) = 0 → (∃ w9, rv = some (.int w9)) ∧ mW G I1 m z)) := by
  refine mx_start (k := 0) (by decide) rfl rfl (fun h => nomatch h) (Nat.le_of_ble_eq_true rfl) ?_
  show mx_V mX10_removeStep mx_S0 4 0 0 0 [some (.ref m), some (.int s)] [] G I (fun rv Gz Iz => (fun rv I1 => I1 m 0 = nI (fl_one (gN (zG z)) s) ∧ mx_fr I I1 m (m + 23) ∧ ((fl_one (gN (zG z)) s) = 0 → rv = some (.int (nI (gN (zG z) - 1))) ∧ mW G I1 m (nx_removeStep z s.toInt.toNat)) ∧ (¬ (fl_one (gN (zG z)) s) = 0 → (∃ w9, rv = some (.int w9)) ∧ mW G I1 m z)) rv Iz ∧ Gz = G) (fun _ _ _ => False)
  have hs0 : oMD G m := hW.1
  have hs1 := hs0
  have hW9 := hW
  obtain ⟨tgm, -, -, ⟨r_now, t_now, l_now⟩, -⟩ := hs1
  obtain ⟨-, hsz, ⟨hn110, h2, htx, htc⟩, ⟨hvp, hN24⟩, ⟨hc14, h8, hdi⟩, hke⟩ := hW9
  have hN24 : gN (zG z) ≤ 24 := hN24
  have hgw : wfG (zG z) := hvp.1.1
  have hP8 : gP (zG z) ≤ 8 := hgw.1
  have hgb : ∀ s, s < gN (zG z) → gF (zG z) s < 8 ∧ gK (zG z) s < 4 ∧ gT (zG z) s < 8 ∧ 1 ≤ gC (zG z) s ∧ gC (zG z) s ≤ 9 := hgw.2.2
  have hn40 := hvp.2.2.2.1
  have J17 : ∀ (_ : Unit), mx_V mX10_removeStep mx_S0 4 0 0 17 [some (.ref m), some (.int s)] [.int (nI (fl_one (gN (zG z)) s)), .ref m] G I (fun rv Gz Iz => (fun rv I1 => I1 m 0 = nI (fl_one (gN (zG z)) s) ∧ mx_fr I I1 m (m + 23) ∧ ((fl_one (gN (zG z)) s) = 0 → rv = some (.int (nI (gN (zG z) - 1))) ∧ mW G I1 m (nx_removeStep z s.toInt.toNat)) ∧ (¬ (fl_one (gN (zG z)) s) = 0 → (∃ w9, rv = some (.int w9)) ∧ mW G I1 m z)) rv Iz ∧ Gz = G) (fun _ _ _ => False) := by
    intro _ 
    refine mx_callVi (ci := 10) (As := [.int (nI (fl_one (gN (zG z)) s))]) (rest := []) dX10_removeStep_17 (mt_refused G I m hs0 (fl_one (gN (zG z)) s) (by unfold fl_one; (repeat' split) <;> omega)) km_X10_refused rfl k_1122 k_1124 k_29 (by assumption) rfl rfl (Nat.le_of_ble_eq_true rfl) (by decide) (fun r1 Ir h2 => ?_)
    obtain ⟨e9, er⟩ := h2
    subst e9
    have hr0 : Ir m 0 = nI (fl_one (gN (zG z)) s) := by rw [er, mx_u_at, if_pos ⟨rfl, rfl⟩]
    have hrf : mx_fr I Ir m (m + 23) := by rw [er]; exact (mx_fr.rf _ _ _).u (by omega)
    have hW1 : mW G Ir m z := hW.k (fun b k q => by rw [er, mx_u_at, if_neg (by omega)])
    clear er
    refine mx_ifB_eq 25 dX10_removeStep_20 (by decide) (fun c20 => ?_) (fun c20 => ?_)
    · skip
      have hm0 : fl_one (gN (zG z)) s = 0 := by omega
      have k1 : 0 ≤ s.toInt ∧ s.toInt < (gN (zG z) : Int) := by
        unfold fl_one at hm0
        (repeat' split at hm0) <;> first | omega | (simp_all; done) | (refine ⟨?_, ?_⟩ <;> omega)
      clear hsz h2 htx htc hvp hdi hke h8
      have hs0 : oMD G m := hW1.1
      have hs1 := hs0
      have hW9 := hW1
      obtain ⟨tgm, -, -, ⟨r_now, t_now, l_now⟩, -⟩ := hs1
      obtain ⟨-, hsz, ⟨hn110, h2, htx, htc⟩, ⟨hvp, hN24⟩, ⟨hc14, h8, hdi⟩, hke⟩ := hW9
      have hN24 : gN (zG z) ≤ 24 := hN24
      have hgw : wfG (zG z) := hvp.1.1
      have hP8 : gP (zG z) ≤ 8 := hgw.1
      have hgb : ∀ s, s < gN (zG z) → gF (zG z) s < 8 ∧ gK (zG z) s < 4 ∧ gT (zG z) s < 8 ∧ 1 ≤ gC (zG z) s ∧ gC (zG z) s ≤ 9 := hgw.2.2
      have hn40 := hvp.2.2.2.1
      refine mx_aload_n (i := 0) (hi := rfl) (hl := rfl) (hd := dX10_removeStep_25) ?_
      refine mx_callVi (ci := 10) (As := []) (rest := []) dX10_removeStep_26 (mt_remember G Ir m z hW1) km_X10_remember rfl k_1266 k_1268 k_49 (by assumption) rfl rfl (Nat.le_of_ble_eq_true rfl) (by decide) (fun r3 I2 h4 => ?_)
      obtain ⟨e9, hW2, hf2⟩ := h4
      subst e9
      have hr2 : I2 m 0 = nI (fl_one (gN (zG z)) s) := (hf2.2 0 (by decide)).trans hr0
      have hrf2 : mx_fr I I2 m (m + 23) := mt_fr hrf hf2.fr
      clear hsz h2 htx htc hvp hdi hke h8
      have hs0 : oMD G m := hW2.1
      have hs1 := hs0
      have hW9 := hW2
      obtain ⟨tgm, -, -, ⟨r_now, t_now, l_now⟩, -⟩ := hs1
      obtain ⟨-, hsz, ⟨hn110, h2, htx, htc⟩, ⟨hvp, hN24⟩, ⟨hc14, h8, hdi⟩, hke⟩ := hW9
      have hN24 : gN (zG z) ≤ 24 := hN24
      have hgw : wfG (zG z) := hvp.1.1
      have hP8 : gP (zG z) ≤ 8 := hgw.1
      have hgb : ∀ s, s < gN (zG z) → gF (zG z) s < 8 ∧ gK (zG z) s < 4 ∧ gT (zG z) s < 8 ∧ 1 ≤ gC (zG z) s ∧ gC (zG z) s ≤ 9 := hgw.2.2
      have hn40 := hvp.2.2.2.1
      have hvp : vpF (I2 (m + 3)) (zX z) := hvp
      refine mx_aload_n (i := 0) (hi := rfl) (hl := rfl) (hd := dX10_removeStep_29) ?_
      refine mx_getR (ci := 10) (k := 5) (r := (m + 3)) dX10_removeStep_30 k_1018 (by decide) rfl (by assumption) (by assumption) (by omega) ?_
      refine mx_iload_n (i := 1) (hi := rfl) (hl := rfl) (hd := dX10_removeStep_33) ?_
      refine mx_callSi (As := [.ref (m + 3), .int s]) (rest := []) dX10_removeStep_34 ((mt_cut G I2 (m + 3) (zG z) t_now l_now hvp.1 s.toInt.toNat (by omega)).eq (by rw [mx_nn k1.1])) km_X10_cut rfl k_1282 k_1283 rfl rfl (Nat.le_of_ble_eq_true rfl) (by decide) (fun r5 I3 h6 => ?_)
      obtain ⟨e9, n1, n2, n3⟩ := h6
      subst e9
      refine mx_aload_n (i := 0) (hi := rfl) (hl := rfl) (hd := dX10_removeStep_37) ?_
      refine mx_getR (ci := 10) (k := 5) (r := (m + 3)) dX10_removeStep_38 k_1018 (by decide) rfl (by assumption) (by assumption) (by omega) ?_
      refine mx_iconstN 1 dX10_removeStep_41 (by decide) ?_
      refine mx_ialdV 1 (nI (gN (zG z) - 1)) dX10_removeStep_42 (by assumption) ⟨rfl, by omega, by omega⟩ n1.2.2.1 ?_
      exact mx_iret dX10_removeStep_43 rfl rfl (⟨⟨(by rw [n3 m (by omega)]; exact hr2), mt_fr hrf2 (mt_f1 n3 (by decide)), fun _ => ⟨rfl, hW2.st (x := (gDrop (zG z) s.toInt.toNat, (zX z).2)) (fun b k q => by rw [n3 b (by omega)]) ((hW2.2.2.2.1).g n1 (by show gN (zG z) - 1 ≤ 24; omega) n2)⟩, fun z9 => absurd hm0 z9⟩, rfl⟩)
    · skip
      refine mx_iconstN 0 dX10_removeStep_23 (by decide) ?_
      exact mx_iret dX10_removeStep_24 rfl rfl (⟨⟨hr0, hrf, fun z9 => absurd z9 (by omega), fun _ => ⟨⟨_, rfl⟩, hW1⟩⟩, rfl⟩)
  refine mx_aload_n (i := 0) (hi := rfl) (hl := rfl) (hd := dX10_removeStep_0) ?_
  refine mx_aload_n (i := 0) (hi := rfl) (hl := rfl) (hd := dX10_removeStep_1) ?_
  refine mx_getR (ci := 10) (k := 5) (r := (m + 3)) dX10_removeStep_2 k_1018 (by decide) rfl (by assumption) (by assumption) (by omega) ?_
  refine mx_iload_n (i := 1) (hi := rfl) (hl := rfl) (hd := dX10_removeStep_5) ?_
  refine mx_callSp (As := [.ref (m + 3), .int s]) (rest := [.ref m]) dX10_removeStep_6 (mt_isStep G I (m + 3) (zG z) t_now l_now hvp.1 s) km_X10_isStep rfl k_1235 k_1236 rfl rfl (Nat.le_of_ble_eq_true rfl) (by decide) ?_
  refine mx_ifB_eq 16 dX10_removeStep_9 (by decide) (fun c9 => ?_) (fun c9 => ?_)
  · skip
    refine mx_iconstN 1 dX10_removeStep_16 (by decide) ?_
    refine mx_top (y := nI (fl_one (gN (zG z)) s)) (congrArg nI (by unfold fl_one; (repeat' split) <;> first | omega | simp_all)) ?_
    exact J17 ()
  · skip
    refine mx_iconstN 0 dX10_removeStep_12 (by decide) ?_
    refine mx_goto (tgt := 17) dX10_removeStep_13 (by decide) ?_
    refine mx_top (y := nI (fl_one (gN (zG z)) s)) (congrArg nI (by unfold fl_one; (repeat' split) <;> first | omega | simp_all)) ?_
    exact J17 ()

set_option maxHeartbeats 4000000 in
set_option maxRecDepth 100000 in
theorem mt_setCost (G : mx_G) (I : mx_I) (m : Nat) (z : Zs) (hW : mW G I m z) (s c : Int32) : mx_CTi yX10_setCost mX10_setCost 4 [.ref m, .int s, .int c] G I (fun rv I1 => I1 m 0 = nI (fl_setCost z s c) ∧ mx_fr I I1 m (m + 23) ∧ ((fl_setCost z s c) = 0 → rv = some (.int (nI (gC (zG z) s.toInt.toNat))) ∧ mW G I1 m (nx_setCost z s.toInt.toNat c.toInt.toNat)) ∧ (¬ (fl_setCost z s c) = 0 → (∃ w9, rv = some (.int w9)) ∧ mW G I1 m z)) := by
  refine mx_start (k := 1) (by decide) rfl rfl (fun h => nomatch h) (Nat.le_of_ble_eq_true rfl) ?_
  show mx_V mX10_setCost mx_S0 4 0 0 0 [some (.ref m), some (.int s), some (.int c), none] [] G I (fun rv Gz Iz => (fun rv I1 => I1 m 0 = nI (fl_setCost z s c) ∧ mx_fr I I1 m (m + 23) ∧ ((fl_setCost z s c) = 0 → rv = some (.int (nI (gC (zG z) s.toInt.toNat))) ∧ mW G I1 m (nx_setCost z s.toInt.toNat c.toInt.toNat)) ∧ (¬ (fl_setCost z s c) = 0 → (∃ w9, rv = some (.int w9)) ∧ mW G I1 m z)) rv Iz ∧ Gz = G) (fun _ _ _ => False)
  have hs0 : oMD G m := hW.1
  have hs1 := hs0
  have hW9 := hW
  obtain ⟨tgm, -, -, ⟨r_now, t_now, l_now⟩, -⟩ := hs1
  obtain ⟨-, hsz, ⟨hn110, h2, htx, htc⟩, ⟨hvp, hN24⟩, ⟨hc14, h8, hdi⟩, hke⟩ := hW9
  have hN24 : gN (zG z) ≤ 24 := hN24
  have hgw : wfG (zG z) := hvp.1.1
  have hP8 : gP (zG z) ≤ 8 := hgw.1
  have hgb : ∀ s, s < gN (zG z) → gF (zG z) s < 8 ∧ gK (zG z) s < 4 ∧ gT (zG z) s < 8 ∧ 1 ≤ gC (zG z) s ∧ gC (zG z) s ≤ 9 := hgw.2.2
  have hn40 := hvp.2.2.2.1
  have J33 : ∀ (_ : Unit), mx_V mX10_setCost mx_S0 4 0 0 33 [some (.ref m), some (.int s), some (.int c), none] [.int (nI (fl_setCost z s c)), .ref m] G I (fun rv Gz Iz => (fun rv I1 => I1 m 0 = nI (fl_setCost z s c) ∧ mx_fr I I1 m (m + 23) ∧ ((fl_setCost z s c) = 0 → rv = some (.int (nI (gC (zG z) s.toInt.toNat))) ∧ mW G I1 m (nx_setCost z s.toInt.toNat c.toInt.toNat)) ∧ (¬ (fl_setCost z s c) = 0 → (∃ w9, rv = some (.int w9)) ∧ mW G I1 m z)) rv Iz ∧ Gz = G) (fun _ _ _ => False) := by
    intro _ 
    refine mx_callVi (ci := 10) (As := [.int (nI (fl_setCost z s c))]) (rest := []) dX10_setCost_33 (mt_refused G I m hs0 (fl_setCost z s c) (Nat.lt_of_le_of_lt (fl_setCost_le _ _ _) (by decide))) km_X10_refused rfl k_1122 k_1124 k_29 (by assumption) rfl rfl (Nat.le_of_ble_eq_true rfl) (by decide) (fun r1 Ir h2 => ?_)
    obtain ⟨e9, er⟩ := h2
    subst e9
    have hr0 : Ir m 0 = nI (fl_setCost z s c) := by rw [er, mx_u_at, if_pos ⟨rfl, rfl⟩]
    have hrf : mx_fr I Ir m (m + 23) := by rw [er]; exact (mx_fr.rf _ _ _).u (by omega)
    have hW1 : mW G Ir m z := hW.k (fun b k q => by rw [er, mx_u_at, if_neg (by omega)])
    clear er
    refine mx_ifB_eq 41 dX10_setCost_36 (by decide) (fun c36 => ?_) (fun c36 => ?_)
    · skip
      have hm0 : fl_setCost z s c = 0 := by omega
      obtain ⟨k1, k2⟩ := fl_setCost_0 hm0
      have hsn : s.toInt.toNat < gN (zG z) := tn_lt k1
      clear hsz h2 htx htc hvp hdi hke h8
      have hs0 : oMD G m := hW1.1
      have hs1 := hs0
      have hW9 := hW1
      obtain ⟨tgm, -, -, ⟨r_now, t_now, l_now⟩, -⟩ := hs1
      obtain ⟨-, hsz, ⟨hn110, h2, htx, htc⟩, ⟨hvp, hN24⟩, ⟨hc14, h8, hdi⟩, hke⟩ := hW9
      have hN24 : gN (zG z) ≤ 24 := hN24
      have hgw : wfG (zG z) := hvp.1.1
      have hP8 : gP (zG z) ≤ 8 := hgw.1
      have hgb : ∀ s, s < gN (zG z) → gF (zG z) s < 8 ∧ gK (zG z) s < 4 ∧ gT (zG z) s < 8 ∧ 1 ≤ gC (zG z) s ∧ gC (zG z) s ≤ 9 := hgw.2.2
      have hn40 := hvp.2.2.2.1
      refine mx_aload_n (i := 0) (hi := rfl) (hl := rfl) (hd := dX10_setCost_41) ?_
      refine mx_callVi (ci := 10) (As := []) (rest := []) dX10_setCost_42 (mt_remember G Ir m z hW1) km_X10_remember rfl k_1266 k_1268 k_49 (by assumption) rfl rfl (Nat.le_of_ble_eq_true rfl) (by decide) (fun r3 I2 h4 => ?_)
      obtain ⟨e9, hW2, hf2⟩ := h4
      subst e9
      have hr2 : I2 m 0 = nI (fl_setCost z s c) := (hf2.2 0 (by decide)).trans hr0
      have hrf2 : mx_fr I I2 m (m + 23) := mt_fr hrf hf2.fr
      clear hsz h2 htx htc hvp hdi hke h8
      have hs0 : oMD G m := hW2.1
      have hs1 := hs0
      have hW9 := hW2
      obtain ⟨tgm, -, -, ⟨r_now, t_now, l_now⟩, -⟩ := hs1
      obtain ⟨-, hsz, ⟨hn110, h2, htx, htc⟩, ⟨hvp, hN24⟩, ⟨hc14, h8, hdi⟩, hke⟩ := hW9
      have hN24 : gN (zG z) ≤ 24 := hN24
      have hgw : wfG (zG z) := hvp.1.1
      have hP8 : gP (zG z) ≤ 8 := hgw.1
      have hgb : ∀ s, s < gN (zG z) → gF (zG z) s < 8 ∧ gK (zG z) s < 4 ∧ gT (zG z) s < 8 ∧ 1 ≤ gC (zG z) s ∧ gC (zG z) s ≤ 9 := hgw.2.2
      have hn40 := hvp.2.2.2.1
      have hvp : vpF (I2 (m + 3)) (zX z) := hvp
      refine mx_aload_n (i := 0) (hi := rfl) (hl := rfl) (hd := dX10_setCost_45) ?_
      refine mx_getR (ci := 10) (k := 5) (r := (m + 3)) dX10_setCost_46 k_1018 (by decide) rfl (by assumption) (by assumption) (by omega) ?_
      refine mx_iload_n (i := 1) (hi := rfl) (hl := rfl) (hd := dX10_setCost_49) ?_
      refine mx_callSp (As := [.int s]) (rest := [.ref (m + 3)]) dX10_setCost_50 ((mt_at G I2 s.toInt.toNat).eq (by rw [mx_nn k1.1]) rfl) km_X10_at rfl k_1180 k_1181 rfl rfl (Nat.le_of_ble_eq_true rfl) (by decide) ?_
      refine mx_iconstN 3 dX10_setCost_53 (by decide) ?_
      refine mx_iaddN dX10_setCost_54 ?_
      refine mx_ialdV (3 + 4 * s.toInt.toNat + 3) (nI (gC (zG z) s.toInt.toNat)) dX10_setCost_55 (by assumption) ⟨rfl, by rw [l_now]; omega, by rw [l_now]; decide⟩ (hvp.1.2.2.2 s.toInt.toNat (by omega)).2.2.2 ?_
      refine mx_istoreE_n (i := 3) (ls' := [some (.ref m), some (.int s), some (.int c), some (.int (nI (gC (zG z) s.toInt.toNat)))]) (hi := rfl) (hd := dX10_setCost_56) (hn := by decide) (hok := rfl) (hls := rfl) ?_
      refine mx_aload_n (i := 0) (hi := rfl) (hl := rfl) (hd := dX10_setCost_57) ?_
      refine mx_getR (ci := 10) (k := 5) (r := (m + 3)) dX10_setCost_58 k_1018 (by decide) rfl (by assumption) (by assumption) (by omega) ?_
      refine mx_iload_n (i := 1) (hi := rfl) (hl := rfl) (hd := dX10_setCost_61) ?_
      refine mx_callSp (As := [.int s]) (rest := [.ref (m + 3)]) dX10_setCost_62 ((mt_at G I2 s.toInt.toNat).eq (by rw [mx_nn k1.1]) rfl) km_X10_at rfl k_1180 k_1181 rfl rfl (Nat.le_of_ble_eq_true rfl) (by decide) ?_
      refine mx_iconstN 3 dX10_setCost_65 (by decide) ?_
      refine mx_iaddN dX10_setCost_66 ?_
      refine mx_iload_n (i := 2) (hi := rfl) (hl := rfl) (hd := dX10_setCost_67) ?_
      refine mx_top (y := nI c.toInt.toNat) ((mx_nn (by omega)).symm) ?_
      refine mx_iast (3 + 4 * s.toInt.toNat + 3) dX10_setCost_68 (by assumption) ⟨rfl, by rw [l_now]; omega, by rw [l_now]; decide⟩ ?_
      refine mx_iload_n (i := 3) (hi := rfl) (hl := rfl) (hd := dX10_setCost_69) ?_
      exact mx_iret dX10_setCost_70 rfl rfl (⟨⟨by rw [mx_u_at, if_neg (by omega)]; exact hr2, hrf2.u (by omega), fun _ => ⟨rfl, hW2.st (x := (gCost (zG z) s.toInt.toNat c.toInt.toNat, (zX z).2)) (fun b k q => by rw [mx_u_at, if_neg (by omega)]) ((hW2.2.2.2.1).g (hvp.1.cost hsn (by omega) (by rw [mx_u_at, if_pos ⟨rfl, rfl⟩]) (fun k hk => by rw [mx_u_at, if_neg (by omega)])) hN24 (fun k hk => by rw [mx_u_at, if_neg (by omega)]))⟩, fun z9 => absurd hm0 z9⟩, rfl⟩)
    · skip
      refine mx_iconstN 0 dX10_setCost_39 (by decide) ?_
      exact mx_iret dX10_setCost_40 rfl rfl (⟨⟨hr0, hrf, fun z9 => absurd z9 (by omega), fun _ => ⟨⟨_, rfl⟩, hW1⟩⟩, rfl⟩)
  refine mx_aload_n (i := 0) (hi := rfl) (hl := rfl) (hd := dX10_setCost_0) ?_
  refine mx_aload_n (i := 0) (hi := rfl) (hl := rfl) (hd := dX10_setCost_1) ?_
  refine mx_getR (ci := 10) (k := 5) (r := (m + 3)) dX10_setCost_2 k_1018 (by decide) rfl (by assumption) (by assumption) (by omega) ?_
  refine mx_iload_n (i := 1) (hi := rfl) (hl := rfl) (hd := dX10_setCost_5) ?_
  refine mx_callSp (As := [.ref (m + 3), .int s]) (rest := [.ref m]) dX10_setCost_6 (mt_isStep G I (m + 3) (zG z) t_now l_now hvp.1 s) km_X10_isStep rfl k_1235 k_1236 rfl rfl (Nat.le_of_ble_eq_true rfl) (by decide) ?_
  refine mx_ifB_ne 16 dX10_setCost_9 (by decide) (fun c9 => ?_) (fun c9 => ?_)
  · skip
    refine mx_iload_n (i := 2) (hi := rfl) (hl := rfl) (hd := dX10_setCost_16) ?_
    refine mx_i2l (hv := rfl) (hd := dX10_setCost_17) ?_
    refine mx_lconst (v := 1) (by decide) dX10_setCost_18 ?_
    refine mx_ldc2 (v := (9)) k_1277 dX10_setCost_19 ?_
    refine mx_callSp (As := [.long c.toInt64, .long (1 : Int64), .long (9)]) (rest := [.ref m]) dX10_setCost_22 (mt_in G I (c.toInt64) (1 : Int64) (9 : Int64)) km_X10_in rfl k_1119 k_1120 rfl rfl (Nat.le_of_ble_eq_true rfl) (by decide) ?_
    refine mx_top (y := mx_b (decide (1 ≤ c.toInt ∧ c.toInt ≤ 9))) (congrArg mx_b (decide_eq_decide.mpr ((in_l (x := 1) (y := 9) rfl rfl).trans (by omega)))) ?_
    refine mx_ifB_eq 32 dX10_setCost_25 (by decide) (fun c25 => ?_) (fun c25 => ?_)
    · skip
      refine mx_iconstN 2 dX10_setCost_32 (by decide) ?_
      refine mx_top (y := nI (fl_setCost z s c)) (congrArg nI (by unfold fl_setCost; (repeat' split) <;> first | omega | simp_all)) ?_
      exact J33 ()
    · skip
      refine mx_iconstN 0 dX10_setCost_28 (by decide) ?_
      refine mx_goto (tgt := 33) dX10_setCost_29 (by decide) ?_
      refine mx_top (y := nI (fl_setCost z s c)) (congrArg nI (by unfold fl_setCost; (repeat' split) <;> first | omega | simp_all)) ?_
      exact J33 ()
  · skip
    refine mx_iconstN 1 dX10_setCost_12 (by decide) ?_
    refine mx_goto (tgt := 33) dX10_setCost_13 (by decide) ?_
    refine mx_top (y := nI (fl_setCost z s c)) (congrArg nI (by unfold fl_setCost; (repeat' split) <;> first | omega | simp_all)) ?_
    exact J33 ()

set_option maxHeartbeats 4000000 in
set_option maxRecDepth 100000 in
theorem mt_turn (G : mx_G) (I : mx_I) (m : Nat) (z : Zs) (hW : mW G I m z) (s : Int32) : mx_CTi yX10_turn mX10_turn 4 [.ref m, .int s] G I (fun rv I1 => I1 m 0 = nI (kD (fl_turn z s)) ∧ mx_fr I I1 m (m + 23) ∧ ((kD (fl_turn z s)) = 0 → rv = some (.int (nI (gT (zG z) s.toInt.toNat))) ∧ mW G I1 m (nx_turn z s.toInt.toNat)) ∧ (¬ (kD (fl_turn z s)) = 0 → (∃ w9, rv = some (.int w9)) ∧ mW G I1 m z)) := by
  refine mx_start (k := 0) (by decide) rfl rfl (fun h => nomatch h) (Nat.le_of_ble_eq_true rfl) ?_
  show mx_V mX10_turn mx_S0 4 0 0 0 [some (.ref m), some (.int s)] [] G I (fun rv Gz Iz => (fun rv I1 => I1 m 0 = nI (kD (fl_turn z s)) ∧ mx_fr I I1 m (m + 23) ∧ ((kD (fl_turn z s)) = 0 → rv = some (.int (nI (gT (zG z) s.toInt.toNat))) ∧ mW G I1 m (nx_turn z s.toInt.toNat)) ∧ (¬ (kD (fl_turn z s)) = 0 → (∃ w9, rv = some (.int w9)) ∧ mW G I1 m z)) rv Iz ∧ Gz = G) (fun _ _ _ => False)
  have hs0 : oMD G m := hW.1
  have hs1 := hs0
  have hW9 := hW
  obtain ⟨tgm, -, -, ⟨r_now, t_now, l_now⟩, -⟩ := hs1
  obtain ⟨-, hsz, ⟨hn110, h2, htx, htc⟩, ⟨hvp, hN24⟩, ⟨hc14, h8, hdi⟩, hke⟩ := hW9
  have hN24 : gN (zG z) ≤ 24 := hN24
  have hgw : wfG (zG z) := hvp.1.1
  have hP8 : gP (zG z) ≤ 8 := hgw.1
  have hgb : ∀ s, s < gN (zG z) → gF (zG z) s < 8 ∧ gK (zG z) s < 4 ∧ gT (zG z) s < 8 ∧ 1 ≤ gC (zG z) s ∧ gC (zG z) s ≤ 9 := hgw.2.2
  have hn40 := hvp.2.2.2.1
  refine mx_aload_n (i := 0) (hi := rfl) (hl := rfl) (hd := dX10_turn_0) ?_
  refine mx_aload_n (i := 0) (hi := rfl) (hl := rfl) (hd := dX10_turn_1) ?_
  refine mx_getR (ci := 10) (k := 5) (r := (m + 3)) dX10_turn_2 k_1018 (by decide) rfl (by assumption) (by assumption) (by omega) ?_
  refine mx_iload_n (i := 1) (hi := rfl) (hl := rfl) (hd := dX10_turn_5) ?_
  refine mx_callSp (As := [.ref (m + 3), .int s]) (rest := [.ref m]) dX10_turn_6 ((mt_whyNotTurn G I (m + 3) (zG z) t_now l_now hvp.1 s).eq rfl (congrArg (fun x => some (Value.int (nI x))) (kD_turn z s))) km_X10_whyNotTurn rfl k_1293 k_1294 rfl rfl (Nat.le_of_ble_eq_true rfl) (by decide) ?_
  refine mx_callVi (ci := 10) (As := [.int (nI (kD (fl_turn z s)))]) (rest := []) dX10_turn_9 (mt_refused G I m hs0 (kD (fl_turn z s)) (Nat.lt_of_le_of_lt (kD_le (fl_turn_le z s)) (by decide))) km_X10_refused rfl k_1122 k_1124 k_29 (by assumption) rfl rfl (Nat.le_of_ble_eq_true rfl) (by decide) (fun r1 Ir h2 => ?_)
  obtain ⟨e9, er⟩ := h2
  subst e9
  have hr0 : Ir m 0 = nI (kD (fl_turn z s)) := by rw [er, mx_u_at, if_pos ⟨rfl, rfl⟩]
  have hrf : mx_fr I Ir m (m + 23) := by rw [er]; exact (mx_fr.rf _ _ _).u (by omega)
  have hW1 : mW G Ir m z := hW.k (fun b k q => by rw [er, mx_u_at, if_neg (by omega)])
  clear er
  refine mx_ifB_eq 17 dX10_turn_12 (by decide) (fun c12 => ?_) (fun c12 => ?_)
  · skip
    have hm0 : kD (fl_turn z s) = 0 := by omega
    obtain ⟨k1, k2⟩ := fl_turn_0 (kD_0.mp hm0)
    clear hsz h2 htx htc hvp hdi hke h8
    have hs0 : oMD G m := hW1.1
    have hs1 := hs0
    have hW9 := hW1
    obtain ⟨tgm, -, -, ⟨r_now, t_now, l_now⟩, -⟩ := hs1
    obtain ⟨-, hsz, ⟨hn110, h2, htx, htc⟩, ⟨hvp, hN24⟩, ⟨hc14, h8, hdi⟩, hke⟩ := hW9
    have hN24 : gN (zG z) ≤ 24 := hN24
    have hgw : wfG (zG z) := hvp.1.1
    have hP8 : gP (zG z) ≤ 8 := hgw.1
    have hgb : ∀ s, s < gN (zG z) → gF (zG z) s < 8 ∧ gK (zG z) s < 4 ∧ gT (zG z) s < 8 ∧ 1 ≤ gC (zG z) s ∧ gC (zG z) s ≤ 9 := hgw.2.2
    have hn40 := hvp.2.2.2.1
    refine mx_aload_n (i := 0) (hi := rfl) (hl := rfl) (hd := dX10_turn_17) ?_
    refine mx_callVi (ci := 10) (As := []) (rest := []) dX10_turn_18 (mt_remember G Ir m z hW1) km_X10_remember rfl k_1266 k_1268 k_49 (by assumption) rfl rfl (Nat.le_of_ble_eq_true rfl) (by decide) (fun r3 I2 h4 => ?_)
    obtain ⟨e9, hW2, hf2⟩ := h4
    subst e9
    have hr2 : I2 m 0 = nI (kD (fl_turn z s)) := (hf2.2 0 (by decide)).trans hr0
    have hrf2 : mx_fr I I2 m (m + 23) := mt_fr hrf hf2.fr
    clear hsz h2 htx htc hvp hdi hke h8
    have hs0 : oMD G m := hW2.1
    have hs1 := hs0
    have hW9 := hW2
    obtain ⟨tgm, -, -, ⟨r_now, t_now, l_now⟩, -⟩ := hs1
    obtain ⟨-, hsz, ⟨hn110, h2, htx, htc⟩, ⟨hvp, hN24⟩, ⟨hc14, h8, hdi⟩, hke⟩ := hW9
    have hN24 : gN (zG z) ≤ 24 := hN24
    have hgw : wfG (zG z) := hvp.1.1
    have hP8 : gP (zG z) ≤ 8 := hgw.1
    have hgb : ∀ s, s < gN (zG z) → gF (zG z) s < 8 ∧ gK (zG z) s < 4 ∧ gT (zG z) s < 8 ∧ 1 ≤ gC (zG z) s ∧ gC (zG z) s ≤ 9 := hgw.2.2
    have hn40 := hvp.2.2.2.1
    have hvp : vpF (I2 (m + 3)) (zX z) := hvp
    refine mx_aload_n (i := 0) (hi := rfl) (hl := rfl) (hd := dX10_turn_21) ?_
    refine mx_getR (ci := 10) (k := 5) (r := (m + 3)) dX10_turn_22 k_1018 (by decide) rfl (by assumption) (by assumption) (by omega) ?_
    refine mx_iload_n (i := 1) (hi := rfl) (hl := rfl) (hd := dX10_turn_25) ?_
    refine mx_callSi (As := [.ref (m + 3), .int s]) (rest := []) dX10_turn_26 ((mt_turnOn G I2 (m + 3) (zG z) t_now l_now hvp.1 s.toInt.toNat (by omega)).eq (by rw [mx_nn k1.1])) km_X10_turnOn rfl k_1296 k_1297 rfl rfl (Nat.le_of_ble_eq_true rfl) (by decide) (fun r5 I3 h6 => ?_)
    obtain ⟨e9, n1, n2, n3⟩ := h6
    subst e9
    exact mx_iret dX10_turn_29 rfl rfl (⟨⟨(by rw [n3 m (by omega)]; exact hr2), mt_fr hrf2 (mt_f1 n3 (by decide)), fun _ => ⟨rfl, hW2.st (x := (gRev (zG z) s.toInt.toNat, (zX z).2)) (fun b k q => by rw [n3 b (by omega)]) ((hW2.2.2.2.1).g n1 hN24 n2)⟩, fun z9 => absurd hm0 z9⟩, rfl⟩)
  · skip
    refine mx_iconstN 0 dX10_turn_15 (by decide) ?_
    exact mx_iret dX10_turn_16 rfl rfl (⟨⟨hr0, hrf, fun z9 => absurd z9 (by omega), fun _ => ⟨⟨_, rfl⟩, hW1⟩⟩, rfl⟩)

set_option maxHeartbeats 4000000 in
set_option maxRecDepth 100000 in
theorem mt_exchange (G : mx_G) (I : mx_I) (m : Nat) (z : Zs) (hW : mW G I m z) (k l : Int32) : mx_CTi yX10_exchange mX10_exchange 4 [.ref m, .int k, .int l] G I (fun rv I1 => I1 m 0 = nI (fl_exchange k l - 1) ∧ mx_fr I I1 m (m + 23) ∧ ((fl_exchange k l - 1) = 0 → rv = some (.int (nI (gCh (gK (zG z)) k.toInt.toNat l.toInt.toNat (gN (zG z))))) ∧ mW G I1 m (nx_exchange z k.toInt.toNat l.toInt.toNat)) ∧ (¬ (fl_exchange k l - 1) = 0 → (∃ w9, rv = some (.int w9)) ∧ mW G I1 m z)) := by
  refine mx_start (k := 0) (by decide) rfl rfl (fun h => nomatch h) (Nat.le_of_ble_eq_true rfl) ?_
  show mx_V mX10_exchange mx_S0 4 0 0 0 [some (.ref m), some (.int k), some (.int l)] [] G I (fun rv Gz Iz => (fun rv I1 => I1 m 0 = nI (fl_exchange k l - 1) ∧ mx_fr I I1 m (m + 23) ∧ ((fl_exchange k l - 1) = 0 → rv = some (.int (nI (gCh (gK (zG z)) k.toInt.toNat l.toInt.toNat (gN (zG z))))) ∧ mW G I1 m (nx_exchange z k.toInt.toNat l.toInt.toNat)) ∧ (¬ (fl_exchange k l - 1) = 0 → (∃ w9, rv = some (.int w9)) ∧ mW G I1 m z)) rv Iz ∧ Gz = G) (fun _ _ _ => False)
  have hs0 : oMD G m := hW.1
  have hs1 := hs0
  have hW9 := hW
  obtain ⟨tgm, -, -, ⟨r_now, t_now, l_now⟩, -⟩ := hs1
  obtain ⟨-, hsz, ⟨hn110, h2, htx, htc⟩, ⟨hvp, hN24⟩, ⟨hc14, h8, hdi⟩, hke⟩ := hW9
  have hN24 : gN (zG z) ≤ 24 := hN24
  have hgw : wfG (zG z) := hvp.1.1
  have hP8 : gP (zG z) ≤ 8 := hgw.1
  have hgb : ∀ s, s < gN (zG z) → gF (zG z) s < 8 ∧ gK (zG z) s < 4 ∧ gT (zG z) s < 8 ∧ 1 ≤ gC (zG z) s ∧ gC (zG z) s ≤ 9 := hgw.2.2
  have hn40 := hvp.2.2.2.1
  have J30 : ∀ (_ : Unit), mx_V mX10_exchange mx_S0 4 0 0 30 [some (.ref m), some (.int k), some (.int l)] [.int (nI (fl_exchange k l - 1)), .ref m] G I (fun rv Gz Iz => (fun rv I1 => I1 m 0 = nI (fl_exchange k l - 1) ∧ mx_fr I I1 m (m + 23) ∧ ((fl_exchange k l - 1) = 0 → rv = some (.int (nI (gCh (gK (zG z)) k.toInt.toNat l.toInt.toNat (gN (zG z))))) ∧ mW G I1 m (nx_exchange z k.toInt.toNat l.toInt.toNat)) ∧ (¬ (fl_exchange k l - 1) = 0 → (∃ w9, rv = some (.int w9)) ∧ mW G I1 m z)) rv Iz ∧ Gz = G) (fun _ _ _ => False) := by
    intro _ 
    refine mx_callVi (ci := 10) (As := [.int (nI (fl_exchange k l - 1))]) (rest := []) dX10_exchange_30 (mt_refused G I m hs0 (fl_exchange k l - 1) (by unfold fl_exchange; (repeat' split) <;> omega)) km_X10_refused rfl k_1122 k_1124 k_29 (by assumption) rfl rfl (Nat.le_of_ble_eq_true rfl) (by decide) (fun r1 Ir h2 => ?_)
    obtain ⟨e9, er⟩ := h2
    subst e9
    have hr0 : Ir m 0 = nI (fl_exchange k l - 1) := by rw [er, mx_u_at, if_pos ⟨rfl, rfl⟩]
    have hrf : mx_fr I Ir m (m + 23) := by rw [er]; exact (mx_fr.rf _ _ _).u (by omega)
    have hW1 : mW G Ir m z := hW.k (fun b k q => by rw [er, mx_u_at, if_neg (by omega)])
    clear er
    refine mx_ifB_eq 38 dX10_exchange_33 (by decide) (fun c33 => ?_) (fun c33 => ?_)
    · skip
      have hm0 : fl_exchange k l - 1 = 0 := by omega
      have k1 := fl_exchange_0 hm0
      clear hsz h2 htx htc hvp hdi hke h8
      have hs0 : oMD G m := hW1.1
      have hs1 := hs0
      have hW9 := hW1
      obtain ⟨tgm, -, -, ⟨r_now, t_now, l_now⟩, -⟩ := hs1
      obtain ⟨-, hsz, ⟨hn110, h2, htx, htc⟩, ⟨hvp, hN24⟩, ⟨hc14, h8, hdi⟩, hke⟩ := hW9
      have hN24 : gN (zG z) ≤ 24 := hN24
      have hgw : wfG (zG z) := hvp.1.1
      have hP8 : gP (zG z) ≤ 8 := hgw.1
      have hgb : ∀ s, s < gN (zG z) → gF (zG z) s < 8 ∧ gK (zG z) s < 4 ∧ gT (zG z) s < 8 ∧ 1 ≤ gC (zG z) s ∧ gC (zG z) s ≤ 9 := hgw.2.2
      have hn40 := hvp.2.2.2.1
      refine mx_aload_n (i := 0) (hi := rfl) (hl := rfl) (hd := dX10_exchange_38) ?_
      refine mx_callVi (ci := 10) (As := []) (rest := []) dX10_exchange_39 (mt_remember G Ir m z hW1) km_X10_remember rfl k_1266 k_1268 k_49 (by assumption) rfl rfl (Nat.le_of_ble_eq_true rfl) (by decide) (fun r3 I2 h4 => ?_)
      obtain ⟨e9, hW2, hf2⟩ := h4
      subst e9
      have hr2 : I2 m 0 = nI (fl_exchange k l - 1) := (hf2.2 0 (by decide)).trans hr0
      have hrf2 : mx_fr I I2 m (m + 23) := mt_fr hrf hf2.fr
      clear hsz h2 htx htc hvp hdi hke h8
      have hs0 : oMD G m := hW2.1
      have hs1 := hs0
      have hW9 := hW2
      obtain ⟨tgm, -, -, ⟨r_now, t_now, l_now⟩, -⟩ := hs1
      obtain ⟨-, hsz, ⟨hn110, h2, htx, htc⟩, ⟨hvp, hN24⟩, ⟨hc14, h8, hdi⟩, hke⟩ := hW9
      have hN24 : gN (zG z) ≤ 24 := hN24
      have hgw : wfG (zG z) := hvp.1.1
      have hP8 : gP (zG z) ≤ 8 := hgw.1
      have hgb : ∀ s, s < gN (zG z) → gF (zG z) s < 8 ∧ gK (zG z) s < 4 ∧ gT (zG z) s < 8 ∧ 1 ≤ gC (zG z) s ∧ gC (zG z) s ≤ 9 := hgw.2.2
      have hn40 := hvp.2.2.2.1
      have hvp : vpF (I2 (m + 3)) (zX z) := hvp
      refine mx_aload_n (i := 0) (hi := rfl) (hl := rfl) (hd := dX10_exchange_42) ?_
      refine mx_getR (ci := 10) (k := 5) (r := (m + 3)) dX10_exchange_43 k_1018 (by decide) rfl (by assumption) (by assumption) (by omega) ?_
      refine mx_iload_n (i := 1) (hi := rfl) (hl := rfl) (hd := dX10_exchange_46) ?_
      refine mx_iload_n (i := 2) (hi := rfl) (hl := rfl) (hd := dX10_exchange_47) ?_
      refine mx_callSi (As := [.ref (m + 3), .int k, .int l]) (rest := []) dX10_exchange_48 ((mt_exchangeOn G I2 (m + 3) (zG z) t_now l_now hvp.1 k.toInt.toNat l.toInt.toNat (by omega) (by omega)).eq (by rw [mx_nn k1.1.1, mx_nn k1.2.1])) km_X10_exchangeOn rfl k_1303 k_1304 rfl rfl (Nat.le_of_ble_eq_true rfl) (by decide) (fun r5 I3 h6 => ?_)
      obtain ⟨e9, n1, n2, n3⟩ := h6
      subst e9
      exact mx_iret dX10_exchange_51 rfl rfl (⟨⟨(by rw [n3 m (by omega)]; exact hr2), mt_fr hrf2 (mt_f1 n3 (by decide)), fun _ => ⟨rfl, hW2.st (x := (gSwp (zG z) k.toInt.toNat l.toInt.toNat, (zX z).2)) (fun b k q => by rw [n3 b (by omega)]) ((hW2.2.2.2.1).g n1 hN24 n2)⟩, fun z9 => absurd hm0 z9⟩, rfl⟩)
    · skip
      refine mx_iconstN 0 dX10_exchange_36 (by decide) ?_
      exact mx_iret dX10_exchange_37 rfl rfl (⟨⟨hr0, hrf, fun z9 => absurd z9 (by omega), fun _ => ⟨⟨_, rfl⟩, hW1⟩⟩, rfl⟩)
  refine mx_aload_n (i := 0) (hi := rfl) (hl := rfl) (hd := dX10_exchange_0) ?_
  refine mx_iload_n (i := 1) (hi := rfl) (hl := rfl) (hd := dX10_exchange_1) ?_
  refine mx_i2l (hv := rfl) (hd := dX10_exchange_2) ?_
  refine mx_lconst (v := 0) (by decide) dX10_exchange_3 ?_
  refine mx_ldc2 (v := (3)) k_1238 dX10_exchange_4 ?_
  refine mx_callSp (As := [.long k.toInt64, .long (0 : Int64), .long (3)]) (rest := [.ref m]) dX10_exchange_7 (mt_in G I (k.toInt64) (0 : Int64) (3 : Int64)) km_X10_in rfl k_1119 k_1120 rfl rfl (Nat.le_of_ble_eq_true rfl) (by decide) ?_
  refine mx_top (y := mx_b (decide (0 ≤ k.toInt ∧ k.toInt < 4))) (congrArg mx_b (decide_eq_decide.mpr ((in_l (x := 0) (y := 3) rfl rfl).trans (by omega)))) ?_
  refine mx_ifB_eq 29 dX10_exchange_10 (by decide) (fun c10 => ?_) (fun c10 => ?_)
  · skip
    refine mx_iconstN 1 dX10_exchange_29 (by decide) ?_
    refine mx_top (y := nI (fl_exchange k l - 1)) (congrArg nI (by unfold fl_exchange; (repeat' split) <;> first | omega | simp_all)) ?_
    exact J30 ()
  · skip
    refine mx_iload_n (i := 2) (hi := rfl) (hl := rfl) (hd := dX10_exchange_13) ?_
    refine mx_i2l (hv := rfl) (hd := dX10_exchange_14) ?_
    refine mx_lconst (v := 0) (by decide) dX10_exchange_15 ?_
    refine mx_ldc2 (v := (3)) k_1238 dX10_exchange_16 ?_
    refine mx_callSp (As := [.long l.toInt64, .long (0 : Int64), .long (3)]) (rest := [.ref m]) dX10_exchange_19 (mt_in G I (l.toInt64) (0 : Int64) (3 : Int64)) km_X10_in rfl k_1119 k_1120 rfl rfl (Nat.le_of_ble_eq_true rfl) (by decide) ?_
    refine mx_top (y := mx_b (decide (0 ≤ l.toInt ∧ l.toInt < 4))) (congrArg mx_b (decide_eq_decide.mpr ((in_l (x := 0) (y := 3) rfl rfl).trans (by omega)))) ?_
    refine mx_ifB_eq 29 dX10_exchange_22 (by decide) (fun c22 => ?_) (fun c22 => ?_)
    · skip
      refine mx_iconstN 1 dX10_exchange_29 (by decide) ?_
      refine mx_top (y := nI (fl_exchange k l - 1)) (congrArg nI (by unfold fl_exchange; (repeat' split) <;> first | omega | simp_all)) ?_
      exact J30 ()
    · skip
      refine mx_iconstN 0 dX10_exchange_25 (by decide) ?_
      refine mx_goto (tgt := 30) dX10_exchange_26 (by decide) ?_
      refine mx_top (y := nI (fl_exchange k l - 1)) (congrArg nI (by unfold fl_exchange; (repeat' split) <;> first | omega | simp_all)) ?_
      exact J30 ()

theorem mW.undo {G : mx_G} {I I1 : mx_I} {m : Nat} {z : Zs} (h : mW G I m z) (e : ∀ b k, ((b = m ∧ k = 2) ∨ b = m + 1 ∨ b = m + 5 ∨ b = m + 6 ∨ b = m + 7) → I1 b k = I b k) (hc : 0 < zC z) (h8 : I1 m 8 = nI (zC z - 1)) (hd : ∀ k, k < 143 → I1 (m + 3) k = I (m + 5) (143 * (zC z - 1) + k)) : mW G I1 m (nx_undo z) := by
  obtain ⟨h1, h2, ⟨h3, h4, h5, h6⟩, h7, ⟨h8', h9, h10⟩, h11⟩ := h
  exact ⟨h1, h2, ⟨h3, (e _ _ (by omega)).trans h4, fun i hi => (e _ _ (by omega)).trans (h5 i hi), h6⟩, (h10 (zC z - 1) (by omega)).c hd, ⟨by show zC z - 1 ≤ 14; omega, h8, fun j hj => (h10 j (by have hj : j < zC z - 1 := hj; omega)).c (fun k _ => e _ _ (by omega))⟩, fun s hs => ⟨(e _ _ (by omega)).trans (h11 s hs).1, fun q => ((h11 s hs).2 q).c (fun k _ => e _ _ (by omega))⟩⟩
theorem mW.save {G : mx_G} {I I1 : mx_I} {m s9 : Nat} {z : Zs} (h : mW G I m z) (hs9 : s9 < 2) (e : ∀ b k, ((b = m ∧ (k = 2 ∨ k = 8)) ∨ b = m + 1 ∨ b = m + 3 ∨ b = m + 5) → I1 b k = I b k) (h7 : I1 (m + 7) s9 = nI 1) (h7o : ∀ j, j ≠ s9 → I1 (m + 7) j = I (m + 7) j) (h6 : ∀ k, k < 143 → I1 (m + 6) (143 * s9 + k) = I (m + 3) k) (h6o : ∀ j, ¬ (143 * s9 ≤ j ∧ j < 143 * s9 + 143) → I1 (m + 6) j = I (m + 6) j) : mW G I1 m (nx_save z s9) := by
  obtain ⟨h1, h2, ⟨h3, h4, h5, h6'⟩, h7', ⟨h8, h9, h10⟩, h11⟩ := h
  refine ⟨h1, h2, ⟨h3, (e _ _ (by omega)).trans h4, fun i hi => (e _ _ (by omega)).trans (h5 i hi), h6'⟩, h7'.c (fun k _ => e _ _ (by omega)), ⟨h8, (e _ _ (by omega)).trans h9, fun j hj => (h10 j hj).c (fun k _ => e _ _ (by omega))⟩, fun s hs => ?_⟩
  show I1 (m + 7) s = mx_b (if s = s9 then true else zF z s) ∧ ((if s = s9 then true else zF z s) = true → vqF (fun k => I1 (m + 6) (143 * s + k)) (if s = s9 then zX z else zK z s))
  by_cases q : s = s9
  · rw [if_pos q, if_pos q, q]
    exact ⟨h7, fun _ => h7'.c (fun k hk => h6 k hk)⟩
  · rw [if_neg q, if_neg q, h7o s q]
    exact ⟨(h11 s hs).1, fun q2 => ((h11 s hs).2 q2).c (fun k hk => h6o _ (by omega))⟩
theorem mW.restore {G : mx_G} {I I1 : mx_I} {m s9 : Nat} {z : Zs} (h : mW G I m z) (hs9 : s9 < 2) (hf : zF z s9 = true) (e : ∀ b k, ((b = m ∧ k = 2) ∨ b = m + 1 ∨ b = m + 5 ∨ b = m + 6 ∨ b = m + 7) → I1 b k = I b k) (h8 : I1 m 8 = nI 0) (hd : ∀ k, k < 143 → I1 (m + 3) k = I (m + 6) (143 * s9 + k)) : mW G I1 m (nx_restore z s9) := by
  obtain ⟨h1, h2, ⟨h3, h4, h5, h6⟩, h7, -, h11⟩ := h
  exact ⟨h1, h2, ⟨h3, (e _ _ (by omega)).trans h4, fun i hi => (e _ _ (by omega)).trans (h5 i hi), h6⟩, ((h11 s9 hs9).2 hf).c hd, ⟨Nat.zero_le _, h8, fun j hj => absurd hj (Nat.not_lt_zero j)⟩, fun s hs => ⟨(e _ _ (by omega)).trans (h11 s hs).1, fun q => ((h11 s hs).2 q).c (fun k _ => e _ _ (by omega))⟩⟩
theorem fl_undo_0 {z : Zs} (h : fl_undo z - 2 = 0) : 0 < zC z := by
  unfold fl_undo at h
  split at h
  · assumption
  · cases h
theorem fl_slot_0 {s : Int32} (h : fl_slot s = 0) : 0 ≤ s.toInt ∧ s.toInt < 2 := by
  unfold fl_slot at h
  split at h
  · cases h
  · next c => exact Classical.not_not.mp c
theorem fl_restore_0 {z : Zs} {s : Int32} (h : fl_restore z s = 0) : (0 ≤ s.toInt ∧ s.toInt < 2) ∧ zF z s.toInt.toNat = true := by
  unfold fl_restore at h
  split at h
  · cases h
  · next c =>
    split at h
    · cases h
    · next c2 => exact ⟨Classical.not_not.mp c, Classical.not_not.mp c2⟩
theorem fl_restore_le (z : Zs) (s : Int32) : fl_restore z s ≤ 3 := by
  unfold fl_restore
  split
  · decide
  · split <;> decide

set_option maxHeartbeats 4000000 in
set_option maxRecDepth 100000 in
theorem mt_undo (G : mx_G) (I : mx_I) (m : Nat) (z : Zs) (hW : mW G I m z) : mx_CTi yX10_undo mX10_undo 3 [.ref m] G I (fun rv I1 => I1 m 0 = nI (fl_undo z - 2) ∧ mx_fr I I1 m (m + 23) ∧ ((fl_undo z - 2) = 0 → rv = some (.int (nI (zC z - 1))) ∧ mW G I1 m (nx_undo z)) ∧ (¬ (fl_undo z - 2) = 0 → (∃ w9, rv = some (.int w9)) ∧ mW G I1 m z)) := by
  refine mx_start (k := 0) (by decide) rfl rfl (fun h => nomatch h) (Nat.le_of_ble_eq_true rfl) ?_
  show mx_V mX10_undo mx_S0 3 0 0 0 [some (.ref m)] [] G I (fun rv Gz Iz => (fun rv I1 => I1 m 0 = nI (fl_undo z - 2) ∧ mx_fr I I1 m (m + 23) ∧ ((fl_undo z - 2) = 0 → rv = some (.int (nI (zC z - 1))) ∧ mW G I1 m (nx_undo z)) ∧ (¬ (fl_undo z - 2) = 0 → (∃ w9, rv = some (.int w9)) ∧ mW G I1 m z)) rv Iz ∧ Gz = G) (fun _ _ _ => False)
  have hs0 : oMD G m := hW.1
  have hs1 := hs0
  have hW9 := hW
  obtain ⟨tgm, -, -, ⟨r_now, t_now, l_now⟩, -, ⟨r_diary, t_diary, l_diary⟩, -⟩ := hs1
  obtain ⟨-, hsz, ⟨hn110, h2, htx, htc⟩, ⟨hvp, hN24⟩, ⟨hc14, h8, hdi⟩, hke⟩ := hW9
  have hN24 : gN (zG z) ≤ 24 := hN24
  have hgw : wfG (zG z) := hvp.1.1
  have hP8 : gP (zG z) ≤ 8 := hgw.1
  have hgb : ∀ s, s < gN (zG z) → gF (zG z) s < 8 ∧ gK (zG z) s < 4 ∧ gT (zG z) s < 8 ∧ 1 ≤ gC (zG z) s ∧ gC (zG z) s ≤ 9 := hgw.2.2
  have hn40 := hvp.2.2.2.1
  have J13 : ∀ (_ : Unit), mx_V mX10_undo mx_S0 3 0 0 13 [some (.ref m)] [.int (nI (fl_undo z - 2)), .ref m] G I (fun rv Gz Iz => (fun rv I1 => I1 m 0 = nI (fl_undo z - 2) ∧ mx_fr I I1 m (m + 23) ∧ ((fl_undo z - 2) = 0 → rv = some (.int (nI (zC z - 1))) ∧ mW G I1 m (nx_undo z)) ∧ (¬ (fl_undo z - 2) = 0 → (∃ w9, rv = some (.int w9)) ∧ mW G I1 m z)) rv Iz ∧ Gz = G) (fun _ _ _ => False) := by
    intro _ 
    refine mx_callVi (ci := 10) (As := [.int (nI (fl_undo z - 2))]) (rest := []) dX10_undo_13 (mt_refused G I m hs0 (fl_undo z - 2) (by unfold fl_undo; (repeat' split) <;> omega)) km_X10_refused rfl k_1122 k_1124 k_29 (by assumption) rfl rfl (Nat.le_of_ble_eq_true rfl) (by decide) (fun r1 Ir h2 => ?_)
    obtain ⟨e9, er⟩ := h2
    subst e9
    have hr0 : Ir m 0 = nI (fl_undo z - 2) := by rw [er, mx_u_at, if_pos ⟨rfl, rfl⟩]
    have hrf : mx_fr I Ir m (m + 23) := by rw [er]; exact (mx_fr.rf _ _ _).u (by omega)
    have hW1 : mW G Ir m z := hW.k (fun b k q => by rw [er, mx_u_at, if_neg (by omega)])
    clear er
    refine mx_ifB_eq 21 dX10_undo_16 (by decide) (fun c16 => ?_) (fun c16 => ?_)
    · skip
      have hm0 : fl_undo z - 2 = 0 := by omega
      have k1 := fl_undo_0 hm0
      clear hsz h2 htx htc hvp hdi hke h8
      have hs0 : oMD G m := hW1.1
      have hs1 := hs0
      have hW9 := hW1
      obtain ⟨tgm, -, -, ⟨r_now, t_now, l_now⟩, -, ⟨r_diary, t_diary, l_diary⟩, -⟩ := hs1
      obtain ⟨-, hsz, ⟨hn110, h2, htx, htc⟩, ⟨hvp, hN24⟩, ⟨hc14, h8, hdi⟩, hke⟩ := hW9
      have hN24 : gN (zG z) ≤ 24 := hN24
      have hgw : wfG (zG z) := hvp.1.1
      have hP8 : gP (zG z) ≤ 8 := hgw.1
      have hgb : ∀ s, s < gN (zG z) → gF (zG z) s < 8 ∧ gK (zG z) s < 4 ∧ gT (zG z) s < 8 ∧ 1 ≤ gC (zG z) s ∧ gC (zG z) s ≤ 9 := hgw.2.2
      have hn40 := hvp.2.2.2.1
      refine mx_aload_n (i := 0) (hi := rfl) (hl := rfl) (hd := dX10_undo_21) ?_
      refine mx_dup (hva := rfl) (hd := dX10_undo_22) ?_
      refine mx_getV (ci := 10) (k := 8) (nI (zC z)) dX10_undo_23 k_1021 (by decide) rfl (by assumption) h8 ?_
      refine mx_iconstN 1 dX10_undo_26 (by decide) ?_
      refine mx_isubN dX10_undo_27 (by omega) ?_
      refine mx_putI (ci := 10) (k := 8) dX10_undo_28 k_1021 (by decide) rfl rfl rfl rfl (by assumption) ?_
      refine mx_aload_n (i := 0) (hi := rfl) (hl := rfl) (hd := dX10_undo_31) ?_
      refine mx_getR (ci := 10) (k := 7) (r := (m + 5)) dX10_undo_32 k_1020 (by decide) rfl (by assumption) (by assumption) (by omega) ?_
      refine mx_sipushN 143 dX10_undo_35 (by decide) ?_
      refine mx_aload_n (i := 0) (hi := rfl) (hl := rfl) (hd := dX10_undo_38) ?_
      refine mx_getV (ci := 10) (k := 8) (nI ((zC z) - 1)) dX10_undo_39 k_1021 (by decide) rfl (by assumption) (by rw [mx_u_at, if_pos ⟨rfl, rfl⟩]) ?_
      refine mx_imulN dX10_undo_42 ?_
      refine mx_aload_n (i := 0) (hi := rfl) (hl := rfl) (hd := dX10_undo_43) ?_
      refine mx_getR (ci := 10) (k := 5) (r := (m + 3)) dX10_undo_44 k_1018 (by decide) rfl (by assumption) (by assumption) (by omega) ?_
      refine mx_iconstN 0 dX10_undo_47 (by decide) ?_
      refine mx_callSi (As := [.ref (m + 5), .int (nI (143 * ((zC z) - 1))), .ref (m + 3), .int (nI 0)]) (rest := []) dX10_undo_48 (mt_copyGraph G (mx_u Ir m 8 (nI (zC z - 1))) (m + 5) (143 * (zC z - 1)) (m + 3) 0 t_diary t_now (by omega) (by omega) (by omega) (by omega) (by omega)) km_X10_copyGraph rfl k_1190 k_1191 rfl rfl (Nat.le_of_ble_eq_true rfl) (by decide) (fun r3 I2 h4 => ?_)
      obtain ⟨e9, q1, q2⟩ := h4
      subst e9
      refine mx_aload_n (i := 0) (hi := rfl) (hl := rfl) (hd := dX10_undo_51) ?_
      refine mx_getV (ci := 10) (k := 8) (nI (zC z - 1)) dX10_undo_52 k_1021 (by decide) rfl (by assumption) ((q2 _ _ (by omega)).trans (by rw [mx_u_at, if_pos ⟨rfl, rfl⟩])) ?_
      exact mx_iret dX10_undo_55 rfl rfl (⟨⟨by rw [q2 _ _ (by omega), mx_u_at, if_neg (by omega)]; exact hr0, mt_fr (hrf.u (by omega)) (fun b hb => funext fun k => q2 b k (by omega)), fun _ => ⟨rfl, hW1.undo (fun b k q => by rw [q2 _ _ (by omega), mx_u_at, if_neg (by omega)]) k1 (by rw [q2 _ _ (by omega), mx_u_at, if_pos ⟨rfl, rfl⟩]) (fun k hk => by have h9 := q1 k hk; rw [Nat.zero_add] at h9; rw [h9, mx_u_at, if_neg (by omega)])⟩, fun z9 => absurd hm0 z9⟩, rfl⟩)
    · skip
      refine mx_iconstN 0 dX10_undo_19 (by decide) ?_
      exact mx_iret dX10_undo_20 rfl rfl (⟨⟨hr0, hrf, fun z9 => absurd z9 (by omega), fun _ => ⟨⟨_, rfl⟩, hW1⟩⟩, rfl⟩)
  refine mx_aload_n (i := 0) (hi := rfl) (hl := rfl) (hd := dX10_undo_0) ?_
  refine mx_aload_n (i := 0) (hi := rfl) (hl := rfl) (hd := dX10_undo_1) ?_
  refine mx_getV (ci := 10) (k := 8) (nI (zC z)) dX10_undo_2 k_1021 (by decide) rfl (by assumption) h8 ?_
  refine mx_ifN_ne 12 dX10_undo_5 (by decide) (by omega) (fun c5 => ?_) (fun c5 => ?_)
  · skip
    refine mx_iconstN 0 dX10_undo_12 (by decide) ?_
    refine mx_top (y := nI (fl_undo z - 2)) (congrArg nI (by unfold fl_undo; (repeat' split) <;> first | omega | simp_all)) ?_
    exact J13 ()
  · skip
    refine mx_iconstN 1 dX10_undo_8 (by decide) ?_
    refine mx_goto (tgt := 13) dX10_undo_9 (by decide) ?_
    refine mx_top (y := nI (fl_undo z - 2)) (congrArg nI (by unfold fl_undo; (repeat' split) <;> first | omega | simp_all)) ?_
    exact J13 ()

set_option maxHeartbeats 4000000 in
set_option maxRecDepth 100000 in
theorem mt_save (G : mx_G) (I : mx_I) (m : Nat) (z : Zs) (hW : mW G I m z) (s : Int32) : mx_CTi yX10_save mX10_save 3 [.ref m, .int s] G I (fun rv I1 => I1 m 0 = nI (fl_slot s) ∧ mx_fr I I1 m (m + 23) ∧ ((fl_slot s) = 0 → rv = some (.int (nI (gN (zG z)))) ∧ mW G I1 m (nx_save z s.toInt.toNat)) ∧ (¬ (fl_slot s) = 0 → (∃ w9, rv = some (.int w9)) ∧ mW G I1 m z)) := by
  refine mx_start (k := 0) (by decide) rfl rfl (fun h => nomatch h) (Nat.le_of_ble_eq_true rfl) ?_
  show mx_V mX10_save mx_S0 3 0 0 0 [some (.ref m), some (.int s)] [] G I (fun rv Gz Iz => (fun rv I1 => I1 m 0 = nI (fl_slot s) ∧ mx_fr I I1 m (m + 23) ∧ ((fl_slot s) = 0 → rv = some (.int (nI (gN (zG z)))) ∧ mW G I1 m (nx_save z s.toInt.toNat)) ∧ (¬ (fl_slot s) = 0 → (∃ w9, rv = some (.int w9)) ∧ mW G I1 m z)) rv Iz ∧ Gz = G) (fun _ _ _ => False)
  have hs0 : oMD G m := hW.1
  have hs1 := hs0
  have hW9 := hW
  obtain ⟨tgm, -, -, ⟨r_now, t_now, l_now⟩, -, -, ⟨r_kept, t_kept, l_kept⟩, ⟨r_isKept, t_isKept, l_isKept⟩, -⟩ := hs1
  obtain ⟨-, hsz, ⟨hn110, h2, htx, htc⟩, ⟨hvp, hN24⟩, ⟨hc14, h8, hdi⟩, hke⟩ := hW9
  have hN24 : gN (zG z) ≤ 24 := hN24
  have hgw : wfG (zG z) := hvp.1.1
  have hP8 : gP (zG z) ≤ 8 := hgw.1
  have hgb : ∀ s, s < gN (zG z) → gF (zG z) s < 8 ∧ gK (zG z) s < 4 ∧ gT (zG z) s < 8 ∧ 1 ≤ gC (zG z) s ∧ gC (zG z) s ≤ 9 := hgw.2.2
  have hn40 := hvp.2.2.2.1
  have J16 : ∀ (_ : Unit), mx_V mX10_save mx_S0 3 0 0 16 [some (.ref m), some (.int s)] [.int (nI (fl_slot s)), .ref m] G I (fun rv Gz Iz => (fun rv I1 => I1 m 0 = nI (fl_slot s) ∧ mx_fr I I1 m (m + 23) ∧ ((fl_slot s) = 0 → rv = some (.int (nI (gN (zG z)))) ∧ mW G I1 m (nx_save z s.toInt.toNat)) ∧ (¬ (fl_slot s) = 0 → (∃ w9, rv = some (.int w9)) ∧ mW G I1 m z)) rv Iz ∧ Gz = G) (fun _ _ _ => False) := by
    intro _ 
    refine mx_callVi (ci := 10) (As := [.int (nI (fl_slot s))]) (rest := []) dX10_save_16 (mt_refused G I m hs0 (fl_slot s) (by unfold fl_slot; (repeat' split) <;> omega)) km_X10_refused rfl k_1122 k_1124 k_29 (by assumption) rfl rfl (Nat.le_of_ble_eq_true rfl) (by decide) (fun r1 Ir h2 => ?_)
    obtain ⟨e9, er⟩ := h2
    subst e9
    have hr0 : Ir m 0 = nI (fl_slot s) := by rw [er, mx_u_at, if_pos ⟨rfl, rfl⟩]
    have hrf : mx_fr I Ir m (m + 23) := by rw [er]; exact (mx_fr.rf _ _ _).u (by omega)
    have hW1 : mW G Ir m z := hW.k (fun b k q => by rw [er, mx_u_at, if_neg (by omega)])
    clear er
    refine mx_ifB_eq 24 dX10_save_19 (by decide) (fun c19 => ?_) (fun c19 => ?_)
    · skip
      have hm0 : fl_slot s = 0 := by omega
      have k1 := fl_slot_0 hm0
      clear hsz h2 htx htc hvp hdi hke h8
      have hs0 : oMD G m := hW1.1
      have hs1 := hs0
      have hW9 := hW1
      obtain ⟨tgm, -, -, ⟨r_now, t_now, l_now⟩, -, -, ⟨r_kept, t_kept, l_kept⟩, ⟨r_isKept, t_isKept, l_isKept⟩, -⟩ := hs1
      obtain ⟨-, hsz, ⟨hn110, h2, htx, htc⟩, ⟨hvp, hN24⟩, ⟨hc14, h8, hdi⟩, hke⟩ := hW9
      have hN24 : gN (zG z) ≤ 24 := hN24
      have hgw : wfG (zG z) := hvp.1.1
      have hP8 : gP (zG z) ≤ 8 := hgw.1
      have hgb : ∀ s, s < gN (zG z) → gF (zG z) s < 8 ∧ gK (zG z) s < 4 ∧ gT (zG z) s < 8 ∧ 1 ≤ gC (zG z) s ∧ gC (zG z) s ≤ 9 := hgw.2.2
      have hn40 := hvp.2.2.2.1
      have hsne : s = nI s.toInt.toNat := (mx_nn (k1.1)).symm
      have hsnb : s.toInt.toNat < 2 := lt2 k1
      have hsn31 : s.toInt.toNat < 2 ^ 31 := tn31 _
      generalize s.toInt.toNat = sn at hsne hsnb hsn31 ⊢
      subst hsne
      refine mx_aload_n (i := 0) (hi := rfl) (hl := rfl) (hd := dX10_save_24) ?_
      refine mx_getR (ci := 10) (k := 5) (r := (m + 3)) dX10_save_25 k_1018 (by decide) rfl (by assumption) (by assumption) (by omega) ?_
      refine mx_iconstN 0 dX10_save_28 (by decide) ?_
      refine mx_aload_n (i := 0) (hi := rfl) (hl := rfl) (hd := dX10_save_29) ?_
      refine mx_getR (ci := 10) (k := 9) (r := (m + 6)) dX10_save_30 k_1022 (by decide) rfl (by assumption) (by assumption) (by omega) ?_
      refine mx_sipushN 143 dX10_save_33 (by decide) ?_
      refine mx_iload_n (i := 1) (hi := rfl) (hl := rfl) (hd := dX10_save_36) ?_
      refine mx_imulN dX10_save_37 ?_
      refine mx_callSi (As := [.ref (m + 3), .int (nI 0), .ref (m + 6), .int (nI (143 * sn))]) (rest := []) dX10_save_38 (mt_copyGraph G Ir (m + 3) 0 (m + 6) (143 * sn) t_now t_kept (by omega) (by omega) (by omega) (by omega) (by omega)) km_X10_copyGraph rfl k_1190 k_1191 rfl rfl (Nat.le_of_ble_eq_true rfl) (by decide) (fun r3 I2 h4 => ?_)
      obtain ⟨e9, q1, q2⟩ := h4
      subst e9
      refine mx_aload_n (i := 0) (hi := rfl) (hl := rfl) (hd := dX10_save_41) ?_
      refine mx_getR (ci := 10) (k := 10) (r := (m + 7)) dX10_save_42 k_1023 (by decide) rfl (by assumption) (by assumption) (by omega) ?_
      refine mx_iload_n (i := 1) (hi := rfl) (hl := rfl) (hd := dX10_save_45) ?_
      refine mx_iconstN 1 dX10_save_46 (by decide) ?_
      refine mx_zast sn dX10_save_47 (by assumption) ⟨rfl, by omega, by omega⟩ (by decide) ?_
      refine mx_aload_n (i := 0) (hi := rfl) (hl := rfl) (hd := dX10_save_48) ?_
      refine mx_getR (ci := 10) (k := 5) (r := (m + 3)) dX10_save_49 k_1018 (by decide) rfl (by assumption) (by assumption) (by omega) ?_
      refine mx_iconstN 1 dX10_save_52 (by decide) ?_
      refine mx_ialdV 1 (nI (gN (zG z))) dX10_save_53 (by assumption) ⟨rfl, by omega, by omega⟩ (by rw [mx_u_at, if_neg (by omega)]; exact ((q2 _ _ (by omega)).trans hvp.1.2.2.1)) ?_
      exact mx_iret dX10_save_54 rfl rfl (⟨⟨by rw [mx_u_at, if_neg (by omega), q2 _ _ (by omega)]; exact hr0, (mt_fr hrf (fun b hb => funext fun k => q2 b k (by omega))).u (by omega), fun _ => ⟨rfl, hW1.save hsnb (fun b k q => by rw [mx_u_at, if_neg (by omega), q2 _ _ (by omega)]) (by rw [mx_u_at, if_pos ⟨rfl, rfl⟩]) (fun j hj => by rw [mx_u_at, if_neg (by omega), q2 _ _ (by omega)]) (fun k hk => by rw [mx_u_at, if_neg (by omega), q1 k hk, Nat.zero_add]) (fun j hj => by rw [mx_u_at, if_neg (by omega), q2 _ _ (by omega)])⟩, fun z9 => absurd hm0 z9⟩, rfl⟩)
    · skip
      refine mx_iconstN 0 dX10_save_22 (by decide) ?_
      exact mx_iret dX10_save_23 rfl rfl (⟨⟨hr0, hrf, fun z9 => absurd z9 (by omega), fun _ => ⟨⟨_, rfl⟩, hW1⟩⟩, rfl⟩)
  refine mx_aload_n (i := 0) (hi := rfl) (hl := rfl) (hd := dX10_save_0) ?_
  refine mx_iload_n (i := 1) (hi := rfl) (hl := rfl) (hd := dX10_save_1) ?_
  refine mx_i2l (hv := rfl) (hd := dX10_save_2) ?_
  refine mx_lconst (v := 0) (by decide) dX10_save_3 ?_
  refine mx_lconst (v := 1) (by decide) dX10_save_4 ?_
  refine mx_callSp (As := [.long s.toInt64, .long (0 : Int64), .long (1 : Int64)]) (rest := [.ref m]) dX10_save_5 (mt_in G I (s.toInt64) (0 : Int64) (1 : Int64)) km_X10_in rfl k_1119 k_1120 rfl rfl (Nat.le_of_ble_eq_true rfl) (by decide) ?_
  refine mx_top (y := mx_b (decide (0 ≤ s.toInt ∧ s.toInt < 2))) (congrArg mx_b (decide_eq_decide.mpr ((in_l (x := 0) (y := 1) rfl rfl).trans (by omega)))) ?_
  refine mx_ifB_eq 15 dX10_save_8 (by decide) (fun c8 => ?_) (fun c8 => ?_)
  · skip
    refine mx_iconstN 1 dX10_save_15 (by decide) ?_
    refine mx_top (y := nI (fl_slot s)) (congrArg nI (by unfold fl_slot; (repeat' split) <;> first | omega | simp_all)) ?_
    exact J16 ()
  · skip
    refine mx_iconstN 0 dX10_save_11 (by decide) ?_
    refine mx_goto (tgt := 16) dX10_save_12 (by decide) ?_
    refine mx_top (y := nI (fl_slot s)) (congrArg nI (by unfold fl_slot; (repeat' split) <;> first | omega | simp_all)) ?_
    exact J16 ()

set_option maxHeartbeats 4000000 in
set_option maxRecDepth 100000 in
theorem mt_restore (G : mx_G) (I : mx_I) (m : Nat) (z : Zs) (hW : mW G I m z) (s : Int32) : mx_CTi yX10_restore mX10_restore 3 [.ref m, .int s] G I (fun rv I1 => I1 m 0 = nI (kD (fl_restore z s)) ∧ mx_fr I I1 m (m + 23) ∧ ((kD (fl_restore z s)) = 0 → rv = some (.int (nI (gN (zK z s.toInt.toNat).1))) ∧ mW G I1 m (nx_restore z s.toInt.toNat)) ∧ (¬ (kD (fl_restore z s)) = 0 → (∃ w9, rv = some (.int w9)) ∧ mW G I1 m z)) := by
  refine mx_start (k := 0) (by decide) rfl rfl (fun h => nomatch h) (Nat.le_of_ble_eq_true rfl) ?_
  show mx_V mX10_restore mx_S0 3 0 0 0 [some (.ref m), some (.int s)] [] G I (fun rv Gz Iz => (fun rv I1 => I1 m 0 = nI (kD (fl_restore z s)) ∧ mx_fr I I1 m (m + 23) ∧ ((kD (fl_restore z s)) = 0 → rv = some (.int (nI (gN (zK z s.toInt.toNat).1))) ∧ mW G I1 m (nx_restore z s.toInt.toNat)) ∧ (¬ (kD (fl_restore z s)) = 0 → (∃ w9, rv = some (.int w9)) ∧ mW G I1 m z)) rv Iz ∧ Gz = G) (fun _ _ _ => False)
  have hs0 : oMD G m := hW.1
  have hs1 := hs0
  have hW9 := hW
  obtain ⟨tgm, -, -, ⟨r_now, t_now, l_now⟩, -, -, ⟨r_kept, t_kept, l_kept⟩, ⟨r_isKept, t_isKept, l_isKept⟩, -⟩ := hs1
  obtain ⟨-, hsz, ⟨hn110, h2, htx, htc⟩, ⟨hvp, hN24⟩, ⟨hc14, h8, hdi⟩, hke⟩ := hW9
  have hN24 : gN (zG z) ≤ 24 := hN24
  have hgw : wfG (zG z) := hvp.1.1
  have hP8 : gP (zG z) ≤ 8 := hgw.1
  have hgb : ∀ s, s < gN (zG z) → gF (zG z) s < 8 ∧ gK (zG z) s < 4 ∧ gT (zG z) s < 8 ∧ 1 ≤ gC (zG z) s ∧ gC (zG z) s ≤ 9 := hgw.2.2
  have hn40 := hvp.2.2.2.1
  have J29 : ∀ (_ : Unit), mx_V mX10_restore mx_S0 3 0 0 29 [some (.ref m), some (.int s)] [.int (nI (kD (fl_restore z s))), .ref m] G I (fun rv Gz Iz => (fun rv I1 => I1 m 0 = nI (kD (fl_restore z s)) ∧ mx_fr I I1 m (m + 23) ∧ ((kD (fl_restore z s)) = 0 → rv = some (.int (nI (gN (zK z s.toInt.toNat).1))) ∧ mW G I1 m (nx_restore z s.toInt.toNat)) ∧ (¬ (kD (fl_restore z s)) = 0 → (∃ w9, rv = some (.int w9)) ∧ mW G I1 m z)) rv Iz ∧ Gz = G) (fun _ _ _ => False) := by
    intro _ 
    refine mx_callVi (ci := 10) (As := [.int (nI (kD (fl_restore z s)))]) (rest := []) dX10_restore_29 (mt_refused G I m hs0 (kD (fl_restore z s)) (Nat.lt_of_le_of_lt (kD_le (fl_restore_le z s)) (by decide))) km_X10_refused rfl k_1122 k_1124 k_29 (by assumption) rfl rfl (Nat.le_of_ble_eq_true rfl) (by decide) (fun r1 Ir h2 => ?_)
    obtain ⟨e9, er⟩ := h2
    subst e9
    have hr0 : Ir m 0 = nI (kD (fl_restore z s)) := by rw [er, mx_u_at, if_pos ⟨rfl, rfl⟩]
    have hrf : mx_fr I Ir m (m + 23) := by rw [er]; exact (mx_fr.rf _ _ _).u (by omega)
    have hW1 : mW G Ir m z := hW.k (fun b k q => by rw [er, mx_u_at, if_neg (by omega)])
    clear er
    refine mx_ifB_eq 37 dX10_restore_32 (by decide) (fun c32 => ?_) (fun c32 => ?_)
    · skip
      have hm0 : kD (fl_restore z s) = 0 := by omega
      obtain ⟨k1, k2⟩ := fl_restore_0 (kD_0.mp hm0)
      clear hsz h2 htx htc hvp hdi h8
      have hs0 : oMD G m := hW1.1
      have hs1 := hs0
      have hW9 := hW1
      obtain ⟨tgm, -, -, ⟨r_now, t_now, l_now⟩, -, -, ⟨r_kept, t_kept, l_kept⟩, ⟨r_isKept, t_isKept, l_isKept⟩, -⟩ := hs1
      obtain ⟨-, hsz, ⟨hn110, h2, htx, htc⟩, ⟨hvp, hN24⟩, ⟨hc14, h8, hdi⟩, hke⟩ := hW9
      have hN24 : gN (zG z) ≤ 24 := hN24
      have hgw : wfG (zG z) := hvp.1.1
      have hP8 : gP (zG z) ≤ 8 := hgw.1
      have hgb : ∀ s, s < gN (zG z) → gF (zG z) s < 8 ∧ gK (zG z) s < 4 ∧ gT (zG z) s < 8 ∧ 1 ≤ gC (zG z) s ∧ gC (zG z) s ≤ 9 := hgw.2.2
      have hn40 := hvp.2.2.2.1
      have hsne : s = nI s.toInt.toNat := (mx_nn (k1.1)).symm
      have hsnb : s.toInt.toNat < 2 := lt2 k1
      have hsn31 : s.toInt.toNat < 2 ^ 31 := tn31 _
      generalize s.toInt.toNat = sn at hsne hsnb hsn31 ⊢
      subst hsne
      rw [nI_tt hsn31] at k2
      refine mx_aload_n (i := 0) (hi := rfl) (hl := rfl) (hd := dX10_restore_37) ?_
      refine mx_getR (ci := 10) (k := 9) (r := (m + 6)) dX10_restore_38 k_1022 (by decide) rfl (by assumption) (by assumption) (by omega) ?_
      refine mx_sipushN 143 dX10_restore_41 (by decide) ?_
      refine mx_iload_n (i := 1) (hi := rfl) (hl := rfl) (hd := dX10_restore_44) ?_
      refine mx_imulN dX10_restore_45 ?_
      refine mx_aload_n (i := 0) (hi := rfl) (hl := rfl) (hd := dX10_restore_46) ?_
      refine mx_getR (ci := 10) (k := 5) (r := (m + 3)) dX10_restore_47 k_1018 (by decide) rfl (by assumption) (by assumption) (by omega) ?_
      refine mx_iconstN 0 dX10_restore_50 (by decide) ?_
      refine mx_callSi (As := [.ref (m + 6), .int (nI (143 * sn)), .ref (m + 3), .int (nI 0)]) (rest := []) dX10_restore_51 (mt_copyGraph G Ir (m + 6) (143 * sn) (m + 3) 0 t_kept t_now (by omega) (by omega) (by omega) (by omega) (by omega)) km_X10_copyGraph rfl k_1190 k_1191 rfl rfl (Nat.le_of_ble_eq_true rfl) (by decide) (fun r3 I2 h4 => ?_)
      obtain ⟨e9, q1, q2⟩ := h4
      subst e9
      have hvk : vqF (I2 (m + 3)) (zK z sn) := ((hke sn hsnb).2 k2).c (fun k hk => by have h9 := q1 k hk; rw [Nat.zero_add] at h9; exact h9)
      refine mx_aload_n (i := 0) (hi := rfl) (hl := rfl) (hd := dX10_restore_54) ?_
      refine mx_iconstN 0 dX10_restore_55 (by decide) ?_
      refine mx_putI (ci := 10) (k := 8) dX10_restore_56 k_1021 (by decide) rfl rfl rfl rfl (by assumption) ?_
      refine mx_aload_n (i := 0) (hi := rfl) (hl := rfl) (hd := dX10_restore_59) ?_
      refine mx_getR (ci := 10) (k := 5) (r := (m + 3)) dX10_restore_60 k_1018 (by decide) rfl (by assumption) (by assumption) (by omega) ?_
      refine mx_iconstN 1 dX10_restore_63 (by decide) ?_
      refine mx_ialdV 1 (nI (gN (zK z sn).1)) dX10_restore_64 (by assumption) ⟨rfl, by omega, by omega⟩ (by rw [mx_u_at, if_neg (by omega)]; exact hvk.1.1.2.2.1) ?_
      exact mx_iret dX10_restore_65 rfl rfl (⟨⟨by rw [mx_u_at, if_neg (by omega), q2 _ _ (by omega)]; exact hr0, (mt_fr hrf (fun b hb => funext fun k => q2 b k (by omega))).u (by omega), fun _ => ⟨rfl, hW1.restore hsnb k2 (fun b k q => by rw [mx_u_at, if_neg (by omega), q2 _ _ (by omega)]) (by rw [mx_u_at, if_pos ⟨rfl, rfl⟩]) (fun k hk => by rw [mx_u_at, if_neg (by omega)]; have h9 := q1 k hk; rw [Nat.zero_add] at h9; exact h9)⟩, fun z9 => absurd hm0 z9⟩, rfl⟩)
    · skip
      refine mx_iconstN 0 dX10_restore_35 (by decide) ?_
      exact mx_iret dX10_restore_36 rfl rfl (⟨⟨hr0, hrf, fun z9 => absurd z9 (by omega), fun _ => ⟨⟨_, rfl⟩, hW1⟩⟩, rfl⟩)
  refine mx_aload_n (i := 0) (hi := rfl) (hl := rfl) (hd := dX10_restore_0) ?_
  refine mx_iload_n (i := 1) (hi := rfl) (hl := rfl) (hd := dX10_restore_1) ?_
  refine mx_i2l (hv := rfl) (hd := dX10_restore_2) ?_
  refine mx_lconst (v := 0) (by decide) dX10_restore_3 ?_
  refine mx_lconst (v := 1) (by decide) dX10_restore_4 ?_
  refine mx_callSp (As := [.long s.toInt64, .long (0 : Int64), .long (1 : Int64)]) (rest := [.ref m]) dX10_restore_5 (mt_in G I (s.toInt64) (0 : Int64) (1 : Int64)) km_X10_in rfl k_1119 k_1120 rfl rfl (Nat.le_of_ble_eq_true rfl) (by decide) ?_
  refine mx_top (y := mx_b (decide (0 ≤ s.toInt ∧ s.toInt < 2))) (congrArg mx_b (decide_eq_decide.mpr ((in_l (x := 0) (y := 1) rfl rfl).trans (by omega)))) ?_
  refine mx_ifB_ne 15 dX10_restore_8 (by decide) (fun c8 => ?_) (fun c8 => ?_)
  · skip
    refine mx_aload_n (i := 0) (hi := rfl) (hl := rfl) (hd := dX10_restore_15) ?_
    refine mx_getR (ci := 10) (k := 10) (r := (m + 7)) dX10_restore_16 k_1023 (by decide) rfl (by assumption) (by assumption) (by omega) ?_
    refine mx_iload_n (i := 1) (hi := rfl) (hl := rfl) (hd := dX10_restore_19) ?_
    refine mx_zaldV s.toInt.toNat (mx_b (decide (zF z s.toInt.toNat = true)) : Int32) dX10_restore_20 (by assumption) ⟨(mx_nn c8.1).symm, by rw [l_isKept]; exact lt2 c8, by rw [l_isKept]; decide⟩ ((hke _ (lt2 c8)).1.trans (congrArg mx_b Bool.decide_eq_true.symm)) ?_
    refine mx_ifB_ne 28 dX10_restore_21 (by decide) (fun c21 => ?_) (fun c21 => ?_)
    · skip
      refine mx_iconstN 0 dX10_restore_28 (by decide) ?_
      refine mx_top (y := nI (kD (fl_restore z s))) (congrArg nI (by unfold kD fl_restore; (repeat' split) <;> first | omega | simp_all)) ?_
      exact J29 ()
    · skip
      refine mx_iconstN 2 dX10_restore_24 (by decide) ?_
      refine mx_goto (tgt := 29) dX10_restore_25 (by decide) ?_
      refine mx_top (y := nI (kD (fl_restore z s))) (congrArg nI (by unfold kD fl_restore; (repeat' split) <;> first | omega | simp_all)) ?_
      exact J29 ()
  · skip
    refine mx_iconstN 1 dX10_restore_11 (by decide) ?_
    refine mx_goto (tgt := 29) dX10_restore_12 (by decide) ?_
    refine mx_top (y := nI (kD (fl_restore z s))) (congrArg nI (by unfold kD fl_restore; (repeat' split) <;> first | omega | simp_all)) ?_
    exact J29 ()

theorem pErr_b {ch : Nat → Nat} {n s : Nat} (h : pErr ch n = some s) (hn : n < 2 ^ 31) : s < 2 ^ 31 := Nat.lt_of_le_of_lt (pErr_le h) hn
theorem fl_take_0 {z : Zs} (h : fl_take z - 2 = 0) : pErr (zT z) (zN z) = none := by
  unfold fl_take at h
  split at h
  · assumption
  · cases h

set_option maxHeartbeats 4000000 in
set_option maxRecDepth 100000 in
theorem mt_take (G : mx_G) (I : mx_I) (m : Nat) (z : Zs) (hW : mW G I m z) : mx_CTi yX10_take mX10_take 4 [.ref m] G I (fun rv I1 => I1 m 0 = nI (fl_take z - 2) ∧ mx_fr I I1 m (m + 23) ∧ ((fl_take z - 2) = 0 → rv = some (.int (nI (pL (rdF (zT z) (zN z))))) ∧ mW G I1 m (nx_take z)) ∧ (¬ (fl_take z - 2) = 0 → (∃ w9, rv = some (.int w9)) ∧ mW G I1 m z)) := by
  refine mx_start (k := 1) (by decide) rfl rfl (fun h => nomatch h) (Nat.le_of_ble_eq_true rfl) ?_
  show mx_V mX10_take mx_S0 4 0 0 0 [some (.ref m), none] [] G I (fun rv Gz Iz => (fun rv I1 => I1 m 0 = nI (fl_take z - 2) ∧ mx_fr I I1 m (m + 23) ∧ ((fl_take z - 2) = 0 → rv = some (.int (nI (pL (rdF (zT z) (zN z))))) ∧ mW G I1 m (nx_take z)) ∧ (¬ (fl_take z - 2) = 0 → (∃ w9, rv = some (.int w9)) ∧ mW G I1 m z)) rv Iz ∧ Gz = G) (fun _ _ _ => False)
  have hs0 : oMD G m := hW.1
  have hs1 := hs0
  have hW9 := hW
  obtain ⟨tgm, ⟨r_text, t_text, l_text⟩, -⟩ := hs1
  obtain ⟨-, hsz, ⟨hn110, h2, htx, htc⟩, ⟨hvp, hN24⟩, ⟨hc14, h8, hdi⟩, hke⟩ := hW9
  have hN24 : gN (zG z) ≤ 24 := hN24
  have hgw : wfG (zG z) := hvp.1.1
  have hP8 : gP (zG z) ≤ 8 := hgw.1
  have hgb : ∀ s, s < gN (zG z) → gF (zG z) s < 8 ∧ gK (zG z) s < 4 ∧ gT (zG z) s < 8 ∧ 1 ≤ gC (zG z) s ∧ gC (zG z) s ≤ 9 := hgw.2.2
  have hn40 := hvp.2.2.2.1
  refine mx_aload_n (i := 0) (hi := rfl) (hl := rfl) (hd := dX10_take_0) ?_
  refine mx_aload_n (i := 0) (hi := rfl) (hl := rfl) (hd := dX10_take_1) ?_
  refine mx_aload_n (i := 0) (hi := rfl) (hl := rfl) (hd := dX10_take_2) ?_
  refine mx_getR (ci := 10) (k := 1) (r := (m + 1)) dX10_take_3 k_1014 (by decide) rfl (by assumption) (by assumption) (by omega) ?_
  refine mx_iconstN 0 dX10_take_6 (by decide) ?_
  refine mx_aload_n (i := 0) (hi := rfl) (hl := rfl) (hd := dX10_take_7) ?_
  refine mx_getV (ci := 10) (k := 2) (nI (zN z)) dX10_take_8 k_1015 (by decide) rfl (by assumption) h2 ?_
  refine mx_callVi (ci := 10) (As := [.ref (m + 1), .int (nI 0), .int (nI (zN z))]) (rest := [.ref m]) dX10_take_11 (mt_compile G I m hs0 (m + 1) 0 (zN z) (zT z) (Or.inl rfl) t_text (by omega) (by omega) (fun i hi => by rw [Nat.zero_add]; exact htx i hi) htc) km_X10_compile rfl k_1134 k_1136 k_30 (by assumption) rfl rfl (Nat.le_of_ble_eq_true rfl) (by decide) (fun r1 I2 h2 => ?_)
  obtain ⟨e9, q1, q2⟩ := h2
  subst e9
  have hWb : mW G I2 m z := hW.S q2.S
  have hfrb : mx_fr I I2 m (m + 23) := q2.S.fr
  have J24 : ∀ (_ : Unit), mx_V mX10_take mx_S0 4 0 0 24 [some (.ref m), none] [.int (nI (fl_take z - 2)), .ref m] G I2 (fun rv Gz Iz => (fun rv I1 => I1 m 0 = nI (fl_take z - 2) ∧ mx_fr I I1 m (m + 23) ∧ ((fl_take z - 2) = 0 → rv = some (.int (nI (pL (rdF (zT z) (zN z))))) ∧ mW G I1 m (nx_take z)) ∧ (¬ (fl_take z - 2) = 0 → (∃ w9, rv = some (.int w9)) ∧ mW G I1 m z)) rv Iz ∧ Gz = G) (fun _ _ _ => False) := by
    intro _ 
    refine mx_callVi (ci := 10) (As := [.int (nI (fl_take z - 2))]) (rest := []) dX10_take_24 (mt_refused G I2 m hs0 (fl_take z - 2) (by unfold fl_take; (repeat' split) <;> omega)) km_X10_refused rfl k_1122 k_1124 k_29 (by assumption) rfl rfl (Nat.le_of_ble_eq_true rfl) (by decide) (fun r3 Ir h4 => ?_)
    obtain ⟨e9, er⟩ := h4
    subst e9
    have hr0 : Ir m 0 = nI (fl_take z - 2) := by rw [er, mx_u_at, if_pos ⟨rfl, rfl⟩]
    have hrf : mx_fr I Ir m (m + 23) := by rw [er]; exact (hfrb).u (by omega)
    have hW1 : mW G Ir m z := hWb.k (fun b k q => by rw [er, mx_u_at, if_neg (by omega)])
    have h11r : Ir m 11 = I2 m 11 := by rw [er, mx_u_at, if_neg (by omega)]
    clear er
    refine mx_ifB_eq 32 dX10_take_27 (by decide) (fun c27 => ?_) (fun c27 => ?_)
    · skip
      have hm0 : fl_take z - 2 = 0 := by omega
      have k1 := fl_take_0 hm0
      have hl11 : Ir m 11 = nI (pL (rdF (zT z) (zN z))) := h11r.trans (q1 k1).1
      clear hsz h2 htx htc hvp hdi hke h8
      
      refine mx_aload_n (i := 0) (hi := rfl) (hl := rfl) (hd := dX10_take_32) ?_
      refine mx_callVi (ci := 10) (As := []) (rest := []) dX10_take_33 (mt_remember G Ir m z hW1) km_X10_remember rfl k_1266 k_1268 k_49 (by assumption) rfl rfl (Nat.le_of_ble_eq_true rfl) (by decide) (fun r5 I3 h6 => ?_)
      obtain ⟨e9, hW2, hf2⟩ := h6
      subst e9
      have hr2 : I3 m 0 = nI (fl_take z - 2) := (hf2.2 0 (by decide)).trans hr0
      have hrf3 : mx_fr I I3 m (m + 23) := mt_fr hrf hf2.fr
      have hs0 : oMD G m := hW2.1
      have hs1 := hs0
      have hW9 := hW2
      obtain ⟨tgm, ⟨r_text, t_text, l_text⟩, -, ⟨r_now, t_now, l_now⟩, -⟩ := hs1
      obtain ⟨-, hsz, ⟨hn110, h2, htx, htc⟩, ⟨hvp, hN24⟩, ⟨hc14, h8, hdi⟩, hke⟩ := hW9
      have hN24 : gN (zG z) ≤ 24 := hN24
      have hgw : wfG (zG z) := hvp.1.1
      have hP8 : gP (zG z) ≤ 8 := hgw.1
      have hgb : ∀ s, s < gN (zG z) → gF (zG z) s < 8 ∧ gK (zG z) s < 4 ∧ gT (zG z) s < 8 ∧ 1 ≤ gC (zG z) s ∧ gC (zG z) s ≤ 9 := hgw.2.2
      have hn40 := hvp.2.2.2.1
      have hvp : vpF (I3 (m + 3)) (zX z) := hvp
      have hn110 : zN z ≤ 110 := hn110
      have h2 : I3 m 2 = nI (zN z) := h2
      have htx : ∀ i, i < zN z → I3 (m + 1) i = nI (zT z i) := htx
      have htc : ∀ i, i < zN z → zT z i < 256 := htc
      have h11 : I3 m 11 = nI (pL (rdF (zT z) (zN z))) := (hf2.2 11 (by decide)).trans hl11
      refine mx_aload_n (i := 0) (hi := rfl) (hl := rfl) (hd := dX10_take_36) ?_
      refine mx_getR (ci := 10) (k := 5) (r := (m + 3)) dX10_take_37 k_1018 (by decide) rfl (by assumption) (by assumption) (by omega) ?_
      refine mx_iconstN 2 dX10_take_40 (by decide) ?_
      refine mx_aload_n (i := 0) (hi := rfl) (hl := rfl) (hd := dX10_take_41) ?_
      refine mx_getV (ci := 10) (k := 2) (nI (zN z)) dX10_take_42 k_1015 (by decide) rfl (by assumption) h2 ?_
      refine mx_iast 2 dX10_take_45 (by assumption) ⟨rfl, by omega, by omega⟩ ?_
      have L48 : ∀ (fq : Nat) (i : Nat) (I5 : mx_I), 40 - i < fq → (i ≤ 40) → (∀ k, k < i → I5 (m + 3) (103 + k) = nI (if k < zN z then zT z k else 0)) → (I5 (m + 3) 2 = nI (zN z)) → (∀ b j, ¬ (b = m + 3 ∧ (j = 2 ∨ 103 ≤ j)) → I5 b j = I3 b j) → mx_V mX10_take mx_S0 4 0 0 48 [some (.ref m), some (.int (nI i))] [] G I5 (fun rv Gz Iz => (fun rv I1 => I1 m 0 = nI (fl_take z - 2) ∧ mx_fr I I1 m (m + 23) ∧ ((fl_take z - 2) = 0 → rv = some (.int (nI (pL (rdF (zT z) (zN z))))) ∧ mW G I1 m (nx_take z)) ∧ (¬ (fl_take z - 2) = 0 → (∃ w9, rv = some (.int w9)) ∧ mW G I1 m z)) rv Iz ∧ Gz = G) (fun _ _ _ => False) := by
        intro fq
        induction fq with
        | zero => intro i I5 hfu; exact absurd hfu (Nat.not_lt_zero _)
        | succ fq ih =>
          intro i I5 hfu hi hi1 hi2 h5
          have J80 : ∀ (_ : Unit), (i < 40) → mx_V mX10_take mx_S0 4 0 0 80 [some (.ref m), some (.int (nI i))] [.int (nI (if i < zN z then zT z i else 0)), .int (nI (103 + i)), .ref (m + 3)] G I5 (fun rv Gz Iz => (fun rv I1 => I1 m 0 = nI (fl_take z - 2) ∧ mx_fr I I1 m (m + 23) ∧ ((fl_take z - 2) = 0 → rv = some (.int (nI (pL (rdF (zT z) (zN z))))) ∧ mW G I1 m (nx_take z)) ∧ (¬ (fl_take z - 2) = 0 → (∃ w9, rv = some (.int w9)) ∧ mW G I1 m z)) rv Iz ∧ Gz = G) (fun _ _ _ => False) := by
            intro _ hi9
            refine mx_iast (103 + i) dX10_take_80 (by assumption) ⟨rfl, by omega, by omega⟩ ?_
            refine mx_iincE (i := 1) (ls' := [some (.ref m), some (.int (nI (i + 1)))]) 1 dX10_take_81 rfl (by decide) (by decide) rfl rfl ?_
            refine mx_goto (tgt := 48) dX10_take_84 (by decide) ?_
            exact ih (i + 1) _ (by omega) (by omega) (fun k hk => by rw [mx_u_at]; split; (next e => rw [show k = i by omega]); (next e => exact hi1 k (by omega))) (by rw [mx_u_at, if_neg (by omega)]; exact hi2) (fun b j hb => by rw [mx_u_at, if_neg (by omega)]; exact h5 b j hb)
          refine mx_iload_n (i := 1) (hi := rfl) (hl := rfl) (hd := dX10_take_48) ?_
          refine mx_bipushN 40 dX10_take_49 (by decide) ?_
          refine mx_cmpN_ge 87 dX10_take_51 (by decide) (by omega) (by omega) (fun c51 => ?_) (fun c51 => ?_)
          · skip
            refine mx_aload_n (i := 0) (hi := rfl) (hl := rfl) (hd := dX10_take_87) ?_
            refine mx_getV (ci := 10) (k := 11) (nI (pL (rdF (zT z) (zN z)))) dX10_take_88 k_1024 (by decide) rfl (by assumption) ((h5 _ _ (by omega)).trans h11) ?_
            refine mx_iret dX10_take_91 rfl rfl (⟨⟨by rw [h5 _ _ (by omega)]; exact hr2, mt_fr hrf3 (fun b hb => funext fun k => h5 b k (by omega)), fun _ => ⟨rfl, hW2.st (x := (zG z, zN z, zT z)) (fun b k q => h5 b k (by omega)) ⟨⟨?_, hi2, fun j hj => ?_, pErr_40 k1, k1, htc⟩, hN24⟩⟩, fun z9 => absurd hm0 z9⟩, rfl⟩)
            · obtain ⟨g1, g2, g3, g4⟩ := hvp.1
              refine ⟨g1, (h5 _ _ (by omega)).trans g2, (h5 _ _ (by omega)).trans g3, fun s hs => ?_⟩
              obtain ⟨x1, x2, x3, x4⟩ := g4 s hs
              have hs : s < gN (zG z) := hs
              exact ⟨(h5 _ _ (by omega)).trans x1, (h5 _ _ (by omega)).trans x2, (h5 _ _ (by omega)).trans x3, (h5 _ _ (by omega)).trans x4⟩
            · have hj : j < zN z := hj
              have := pErr_40 k1
              rw [hi1 j (by omega), if_pos hj]
          · skip
            refine mx_aload_n (i := 0) (hi := rfl) (hl := rfl) (hd := dX10_take_54) ?_
            refine mx_getR (ci := 10) (k := 5) (r := (m + 3)) dX10_take_55 k_1018 (by decide) rfl (by assumption) (by assumption) (by omega) ?_
            refine mx_bipushN 103 dX10_take_58 (by decide) ?_
            refine mx_iload_n (i := 1) (hi := rfl) (hl := rfl) (hd := dX10_take_60) ?_
            refine mx_iaddN dX10_take_61 ?_
            refine mx_iload_n (i := 1) (hi := rfl) (hl := rfl) (hd := dX10_take_62) ?_
            refine mx_aload_n (i := 0) (hi := rfl) (hl := rfl) (hd := dX10_take_63) ?_
            refine mx_getV (ci := 10) (k := 2) (nI (zN z)) dX10_take_64 k_1015 (by decide) rfl (by assumption) ((h5 _ _ (by omega)).trans h2) ?_
            refine mx_cmpN_ge 79 dX10_take_67 (by decide) (by omega) (by omega) (fun c67 => ?_) (fun c67 => ?_)
            · skip
              refine mx_iconstN 0 dX10_take_79 (by decide) ?_
              refine mx_top (y := nI (if i < zN z then zT z i else 0)) (by rw [if_neg (by omega)]) ?_
              exact J80 () (by omega)
            · skip
              refine mx_aload_n (i := 0) (hi := rfl) (hl := rfl) (hd := dX10_take_70) ?_
              refine mx_getR (ci := 10) (k := 1) (r := (m + 1)) dX10_take_71 k_1014 (by decide) rfl (by assumption) (by assumption) (by omega) ?_
              refine mx_iload_n (i := 1) (hi := rfl) (hl := rfl) (hd := dX10_take_74) ?_
              refine mx_ialdV i (nI (zT z i)) dX10_take_75 (by assumption) ⟨rfl, by omega, by omega⟩ ((h5 _ _ (by omega)).trans (htx i (by omega))) ?_
              refine mx_goto (tgt := 80) dX10_take_76 (by decide) ?_
              refine mx_top (y := nI (if i < zN z then zT z i else 0)) (by rw [if_pos (by omega)]) ?_
              exact J80 () (by omega)
      refine mx_iconstN 0 dX10_take_46 (by decide) ?_
      refine mx_istoreE_n (i := 1) (ls' := [some (.ref m), some (.int (nI 0))]) (hi := rfl) (hd := dX10_take_47) (hn := by decide) (hok := rfl) (hls := rfl) ?_
      exact L48 _ 0 _ (Nat.lt_succ_self _) (Nat.zero_le _) (fun k hk => absurd hk (Nat.not_lt_zero k)) (by rw [mx_u_at, if_pos ⟨rfl, rfl⟩]) (fun b j hb => by rw [mx_u_at, if_neg (by omega)])
    · skip
      refine mx_iconstN 0 dX10_take_30 (by decide) ?_
      exact mx_iret dX10_take_31 rfl rfl (⟨⟨hr0, hrf, fun z9 => absurd z9 (by omega), fun _ => ⟨⟨_, rfl⟩, hW1⟩⟩, rfl⟩)
  refine mx_bipush (v := (-9)) (by decide) dX10_take_14 ?_
  refine mx_icmp_ne (tgt := 23) dX10_take_16 (by decide) (fun c16 => ?_) (fun c16 => ?_)
  · skip
    refine mx_iconstN 1 dX10_take_23 (by decide) ?_
    refine mx_top (y := nI (fl_take z - 2)) (congrArg nI (show 1 = fl_take z - 2 by unfold fl_take; rw [if_neg (fun q => c16 ((pErr_iff (by omega)).mpr q))])) ?_
    exact J24 ()
  · skip
    refine mx_iconstN 0 dX10_take_19 (by decide) ?_
    refine mx_goto (tgt := 24) dX10_take_20 (by decide) ?_
    refine mx_top (y := nI (fl_take z - 2)) (congrArg nI (show 0 = fl_take z - 2 by unfold fl_take; rw [if_pos ((pErr_iff (by omega)).mp c16)])) ?_
    exact J24 ()
