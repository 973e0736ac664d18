/-! THE REFERENCE: what it holds; the methods that read -/
def vqF (f : Nat → Int32) (x : Vl) : Prop := vpF f x ∧ gN x.1 ≤ 24
def mW (G : mx_G) (I : mx_I) (m : Nat) (z : Zs) : Prop := oMD G m ∧ m + 23 ≤ mx_sz G ∧ (zN z ≤ 110 ∧ I m 2 = nI (zN z) ∧ (∀ i, i < zN z → I (m + 1) i = nI (zT z i)) ∧ ∀ i, i < zN z → zT z i < 256) ∧ vqF (I (m + 3)) (zX z) ∧ (zC z ≤ 14 ∧ I m 8 = nI (zC z) ∧ ∀ j, j < zC z → vqF (fun k => I (m + 5) (143 * j + k)) (zH z j)) ∧ ∀ s, s < 2 → I (m + 7) s = mx_b (zF z s) ∧ (zF z s = true → vqF (fun k => I (m + 6) (143 * s + k)) (zK z s))
theorem vqF.c {f f' : Nat → Int32} {x : Vl} (h : vqF f x) (e : ∀ k, k < 143 → f' k = f k) : vqF f' x := ⟨h.1.c e, h.2⟩
theorem mW.k {G : mx_G} {I I1 : mx_I} {m : Nat} {z : Zs} (h : mW G I m z) (e : ∀ b k, ((b = m ∧ (k = 2 ∨ k = 8)) ∨ b = m + 1 ∨ b = m + 3 ∨ b = m + 5 ∨ b = m + 6 ∨ b = m + 7) → I1 b k = I b k) : mW G I1 m z := by
  obtain ⟨h1, h2, ⟨h3, h4, h5, h6⟩, h7, ⟨h8, h9, h10⟩, h11⟩ := h
  exact ⟨h1, h2, ⟨h3, (e _ _ (by omega)).trans h4, fun i hi => (e _ _ (by omega)).trans (h5 i hi), h6⟩, h7.c (fun k _ => e _ _ (by omega)), ⟨h8, (e _ _ (by omega)).trans h9, fun j hj => (h10 j hj).c (fun k _ => e _ _ (by omega))⟩, fun s hs => ⟨(e _ _ (by omega)).trans (h11 s hs).1, fun q => ((h11 s hs).2 q).c (fun k _ => e _ _ (by omega))⟩⟩
theorem mW.S {G : mx_G} {I I1 : mx_I} {m : Nat} {z : Zs} (h : mW G I m z) (k : mS I I1 m) : mW G I1 m z := h.k (fun b j q => by
  by_cases e : b = m
  · rw [e]; exact k.2 j (by omega)
  · rw [k.1 b (by omega)])
theorem mS.fr {I I1 : mx_I} {m : Nat} (h : mS I I1 m) : mx_fr I I1 m (m + 23) := fun b hb => h.1 b (by omega)
theorem mW.tx {G : mx_G} {I I1 : mx_I} {m n : Nat} {ch : Nat → Nat} {z : Zs} (h : mW G I m z) (e : ∀ b k, ((b = m ∧ k = 8) ∨ b = m + 3 ∨ b = m + 5 ∨ b = m + 6 ∨ b = m + 7) → I1 b k = I b k) (hn : n ≤ 110) (e2 : I1 m 2 = nI n) (e1 : ∀ i, i < n → I1 (m + 1) i = nI (ch i)) (ec : ∀ i, i < n → ch i < 256) : mW G I1 m ((n, ch), z.2) := by
  obtain ⟨h1, h2, ⟨h3, h4, h5, h6⟩, h7, ⟨h8, h9, h10⟩, h11⟩ := h
  exact ⟨h1, h2, ⟨hn, e2, e1, ec⟩, h7.c (fun k _ => e _ _ (by omega)), ⟨h8, (e _ _ (by omega)).trans h9, fun j hj => (h10 j hj).c (fun k _ => e _ _ (by omega))⟩, fun s hs => ⟨(e _ _ (by omega)).trans (h11 s hs).1, fun q => ((h11 s hs).2 q).c (fun k _ => e _ _ (by omega))⟩⟩
theorem mW.st {G : mx_G} {I I1 : mx_I} {m : Nat} {x : Vl} {z : Zs} (h : mW G I m z) (e : ∀ b k, ((b = m ∧ (k = 2 ∨ k = 8)) ∨ b = m + 1 ∨ b = m + 5 ∨ b = m + 6 ∨ b = m + 7) → I1 b k = I b k) (hx : vqF (I1 (m + 3)) x) : mW G I1 m (z.1, x, z.2.2) := by
  obtain ⟨h1, h2, ⟨h3, h4, h5, h6⟩, h7, ⟨h8, h9, h10⟩, h11⟩ := h
  exact ⟨h1, h2, ⟨h3, (e _ _ (by omega)).trans h4, fun i hi => (e _ _ (by omega)).trans (h5 i hi), h6⟩, hx, ⟨h8, (e _ _ (by omega)).trans h9, fun j hj => (h10 j hj).c (fun k _ => e _ _ (by omega))⟩, fun s hs => ⟨(e _ _ (by omega)).trans (h11 s hs).1, fun q => ((h11 s hs).2 q).c (fun k _ => e _ _ (by omega))⟩⟩
theorem vqF.g {f f' : Nat → Int32} {x : Vl} {v : Gr} (h : vqF f x) (hg : gaF f' v) (h24 : gN v ≤ 24) (hx : gxF f f') : vqF f' (v, x.2) := ⟨⟨hg, (hx 2 (Or.inl rfl)).trans h.1.2.1, fun i hi => (hx _ (by omega)).trans (h.1.2.2.1 i hi), h.1.2.2.2⟩, h24⟩

set_option maxHeartbeats 4000000 in
set_option maxRecDepth 100000 in
theorem mt_append (G : mx_G) (I : mx_I) (m : Nat) (z : Zs) (hW : mW G I m z) (c : Int32) : mx_CTi yX10_append mX10_append 3 [.ref m, .int c] G I (fun rv I1 => I1 m 0 = nI (fl_append z c - 1) ∧ mx_fr I I1 m (m + 23) ∧ ((fl_append z c - 1) = 0 → rv = some (.int (nI (zN z + 1))) ∧ mW G I1 m (nx_append z c)) ∧ (¬ (fl_append z c - 1) = 0 → (∃ w9, rv = some (.int w9)) ∧ mW G I1 m z)) := by
  refine mx_start (k := 0) (by decide) rfl rfl (fun h => nomatch h) (Nat.le_of_ble_eq_true rfl) ?_
  show mx_V mX10_append mx_S0 3 0 0 0 [some (.ref m), some (.int c)] [] G I (fun rv Gz Iz => (fun rv I1 => I1 m 0 = nI (fl_append z c - 1) ∧ mx_fr I I1 m (m + 23) ∧ ((fl_append z c - 1) = 0 → rv = some (.int (nI (zN z + 1))) ∧ mW G I1 m (nx_append z c)) ∧ (¬ (fl_append z c - 1) = 0 → (∃ w9, rv = some (.int w9)) ∧ mW G I1 m z)) rv Iz ∧ Gz = G) (fun _ _ _ => False)
  have hs0 : oMD G m := hW.1
  have hs1 := hs0
  have hW9 := hW
  obtain ⟨tgm, ⟨r_text, t_text, l_text⟩, -⟩ := hs1
  obtain ⟨-, hsz, ⟨hn110, h2, htx, htc⟩, ⟨hvp, hN24⟩, ⟨hc14, h8, hdi⟩, hke⟩ := hW9
  have hN24 : gN (zG z) ≤ 24 := hN24
  have hgw : wfG (zG z) := hvp.1.1
  have hP8 : gP (zG z) ≤ 8 := hgw.1
  have hgb : ∀ s, s < gN (zG z) → gF (zG z) s < 8 ∧ gK (zG z) s < 4 ∧ gT (zG z) s < 8 ∧ 1 ≤ gC (zG z) s ∧ gC (zG z) s ≤ 9 := hgw.2.2
  have hn40 := hvp.2.2.2.1
  have J31 : ∀ (_ : Unit), mx_V mX10_append mx_S0 3 0 0 31 [some (.ref m), some (.int c)] [.int (nI (fl_append z c - 1)), .ref m] G I (fun rv Gz Iz => (fun rv I1 => I1 m 0 = nI (fl_append z c - 1) ∧ mx_fr I I1 m (m + 23) ∧ ((fl_append z c - 1) = 0 → rv = some (.int (nI (zN z + 1))) ∧ mW G I1 m (nx_append z c)) ∧ (¬ (fl_append z c - 1) = 0 → (∃ w9, rv = some (.int w9)) ∧ mW G I1 m z)) rv Iz ∧ Gz = G) (fun _ _ _ => False) := by
    intro _ 
    refine mx_callVi (ci := 10) (As := [.int (nI (fl_append z c - 1))]) (rest := []) dX10_append_31 (mt_refused G I m hs0 (fl_append z c - 1) (by unfold fl_append; (repeat' split) <;> omega)) km_X10_refused rfl k_1122 k_1124 k_29 (by assumption) rfl rfl (Nat.le_of_ble_eq_true rfl) (by decide) (fun r1 Ir h2 => ?_)
    obtain ⟨e9, er⟩ := h2
    subst e9
    have hr0 : Ir m 0 = nI (fl_append z c - 1) := by rw [er, mx_u_at, if_pos ⟨rfl, rfl⟩]
    have hrf : mx_fr I Ir m (m + 23) := by rw [er]; exact (mx_fr.rf _ _ _).u (by omega)
    have hW1 : mW G Ir m z := hW.k (fun b k q => by rw [er, mx_u_at, if_neg (by omega)])
    clear er
    refine mx_ifB_eq 39 dX10_append_34 (by decide) (fun c34 => ?_) (fun c34 => ?_)
    · skip
      have hm0 : fl_append z c - 1 = 0 := by omega
      have k1 : (0 ≤ c.toInt ∧ c.toInt ≤ 255) ∧ zN z < 110 := by
        unfold fl_append at hm0
        (repeat' split at hm0) <;> first | omega | (refine ⟨?_, ?_⟩ <;> omega)
      clear hsz h2 htx htc hvp hdi hke h8
      have hs0 : oMD G m := hW1.1
      have hs1 := hs0
      have hW9 := hW1
      obtain ⟨tgm, ⟨r_text, t_text, l_text⟩, -⟩ := hs1
      obtain ⟨-, hsz, ⟨hn110, h2, htx, htc⟩, ⟨hvp, hN24⟩, ⟨hc14, h8, hdi⟩, hke⟩ := hW9
      have hN24 : gN (zG z) ≤ 24 := hN24
      have hgw : wfG (zG z) := hvp.1.1
      have hP8 : gP (zG z) ≤ 8 := hgw.1
      have hgb : ∀ s, s < gN (zG z) → gF (zG z) s < 8 ∧ gK (zG z) s < 4 ∧ gT (zG z) s < 8 ∧ 1 ≤ gC (zG z) s ∧ gC (zG z) s ≤ 9 := hgw.2.2
      have hn40 := hvp.2.2.2.1
      refine mx_aload_n (i := 0) (hi := rfl) (hl := rfl) (hd := dX10_append_39) ?_
      refine mx_getR (ci := 10) (k := 1) (r := (m + 1)) dX10_append_40 k_1014 (by decide) rfl (by assumption) (by assumption) (by omega) ?_
      refine mx_aload_n (i := 0) (hi := rfl) (hl := rfl) (hd := dX10_append_43) ?_
      refine mx_getV (ci := 10) (k := 2) (nI (zN z)) dX10_append_44 k_1015 (by decide) rfl (by assumption) h2 ?_
      refine mx_iload_n (i := 1) (hi := rfl) (hl := rfl) (hd := dX10_append_47) ?_
      refine mx_iast (zN z) dX10_append_48 (by assumption) ⟨rfl, by omega, by omega⟩ ?_
      refine mx_aload_n (i := 0) (hi := rfl) (hl := rfl) (hd := dX10_append_49) ?_
      refine mx_dup (hva := rfl) (hd := dX10_append_50) ?_
      refine mx_getV (ci := 10) (k := 2) (nI (zN z)) dX10_append_51 k_1015 (by decide) rfl (by assumption) (by rw [mx_u_at, if_neg (by omega)]; exact h2) ?_
      refine mx_iconstN 1 dX10_append_54 (by decide) ?_
      refine mx_iaddN dX10_append_55 ?_
      refine mx_putI (ci := 10) (k := 2) dX10_append_56 k_1015 (by decide) rfl rfl rfl rfl (by assumption) ?_
      refine mx_aload_n (i := 0) (hi := rfl) (hl := rfl) (hd := dX10_append_59) ?_
      refine mx_getV (ci := 10) (k := 2) (nI (zN z + 1)) dX10_append_60 k_1015 (by decide) rfl (by assumption) (by rw [mx_u_at, if_pos ⟨rfl, rfl⟩]) ?_
      refine mx_iret dX10_append_63 rfl rfl (⟨⟨?_, ?_, fun _ => ⟨rfl, ?_⟩, fun z9 => absurd hm0 z9⟩, rfl⟩)
      · rw [mx_u_at, if_neg (by omega), mx_u_at, if_neg (by omega)]; exact hr0
      · exact (hrf.u (by omega)).u (by omega)
      · refine hW1.tx (fun b k q => by rw [mx_u_at, if_neg (by omega), mx_u_at, if_neg (by omega)]) (by omega) (by rw [mx_u_at, if_pos ⟨rfl, rfl⟩]) (fun i hi => ?_) (fun i hi => ?_)
        · rw [mx_u_at, if_neg (by omega), mx_u_at]
          show _ = nI (if i = zN z then c.toInt.toNat else zT z i)
          by_cases e : i = zN z
          · rw [if_pos ⟨rfl, e⟩, if_pos e]; exact (mx_nn k1.1.1).symm
          · rw [if_neg (fun q => e q.2), if_neg e]; exact htx i (by omega)
        · show (if i = zN z then c.toInt.toNat else zT z i) < 256
          by_cases e : i = zN z
          · rw [if_pos e]; omega
          · rw [if_neg e]; exact htc i (by omega)
    · skip
      refine mx_iconstN 0 dX10_append_37 (by decide) ?_
      exact mx_iret dX10_append_38 rfl rfl (⟨⟨hr0, hrf, fun z9 => absurd z9 (by omega), fun _ => ⟨⟨_, rfl⟩, hW1⟩⟩, rfl⟩)
  refine mx_aload_n (i := 0) (hi := rfl) (hl := rfl) (hd := dX10_append_0) ?_
  refine mx_iload_n (i := 1) (hi := rfl) (hl := rfl) (hd := dX10_append_1) ?_
  refine mx_i2l (hv := rfl) (hd := dX10_append_2) ?_
  refine mx_lconst (v := 0) (by decide) dX10_append_3 ?_
  refine mx_ldc2 (v := (255)) k_1118 dX10_append_4 ?_
  refine mx_callSp (As := [.long c.toInt64, .long (0 : Int64), .long (255)]) (rest := [.ref m]) dX10_append_7 (mt_in G I (c.toInt64) (0 : Int64) (255 : Int64)) km_X10_in rfl k_1119 k_1120 rfl rfl (Nat.le_of_ble_eq_true rfl) (by decide) ?_
  refine mx_top (y := mx_b (decide (0 ≤ c.toInt ∧ c.toInt ≤ 255))) (congrArg mx_b (decide_eq_decide.mpr ((in_l (x := 0) (y := 255) rfl rfl).trans (by omega)))) ?_
  refine mx_ifB_ne 17 dX10_append_10 (by decide) (fun c10 => ?_) (fun c10 => ?_)
  · skip
    refine mx_aload_n (i := 0) (hi := rfl) (hl := rfl) (hd := dX10_append_17) ?_
    refine mx_getV (ci := 10) (k := 2) (nI (zN z)) dX10_append_18 k_1015 (by decide) rfl (by assumption) h2 ?_
    refine mx_bipushN 110 dX10_append_21 (by decide) ?_
    refine mx_cmpN_ne 30 dX10_append_23 (by decide) (by omega) (by omega) (fun c23 => ?_) (fun c23 => ?_)
    · skip
      refine mx_iconstN 0 dX10_append_30 (by decide) ?_
      refine mx_top (y := nI (fl_append z c - 1)) (congrArg nI (by unfold fl_append; (repeat' split) <;> first | omega | simp_all)) ?_
      exact J31 ()
    · skip
      refine mx_iconstN 2 dX10_append_26 (by decide) ?_
      refine mx_goto (tgt := 31) dX10_append_27 (by decide) ?_
      refine mx_top (y := nI (fl_append z c - 1)) (congrArg nI (by unfold fl_append; (repeat' split) <;> first | omega | simp_all)) ?_
      exact J31 ()
  · skip
    refine mx_iconstN 1 dX10_append_13 (by decide) ?_
    refine mx_goto (tgt := 31) dX10_append_14 (by decide) ?_
    refine mx_top (y := nI (fl_append z c - 1)) (congrArg nI (by unfold fl_append; (repeat' split) <;> first | omega | simp_all)) ?_
    exact J31 ()

set_option maxHeartbeats 4000000 in
set_option maxRecDepth 100000 in
theorem mt_clearText (G : mx_G) (I : mx_I) (m : Nat) (z : Zs) (hW : mW G I m z) : mx_CTi yX10_clearText mX10_clearText 1 [.ref m] G I (fun rv I1 => rv = some (.int (nI (zN z))) ∧ mW G I1 m ((0, zT z), z.2) ∧ mx_fr I I1 m (m + 23)) := by
  refine mx_start (k := 1) (by decide) rfl rfl (fun h => nomatch h) (Nat.le_of_ble_eq_true rfl) ?_
  show mx_V mX10_clearText mx_S0 1 0 0 0 [some (.ref m), none] [] G I (fun rv Gz Iz => (fun rv I1 => rv = some (.int (nI (zN z))) ∧ mW G I1 m ((0, zT z), z.2) ∧ mx_fr I I1 m (m + 23)) rv Iz ∧ Gz = G) (fun _ _ _ => False)
  have hs0 : oMD G m := hW.1
  have hs1 := hs0
  have hW9 := hW
  obtain ⟨tgm, -⟩ := hs1
  obtain ⟨-, hsz, ⟨hn110, h2, htx, htc⟩, ⟨hvp, hN24⟩, ⟨hc14, h8, hdi⟩, hke⟩ := hW9
  have hN24 : gN (zG z) ≤ 24 := hN24
  have hgw : wfG (zG z) := hvp.1.1
  have hP8 : gP (zG z) ≤ 8 := hgw.1
  have hgb : ∀ s, s < gN (zG z) → gF (zG z) s < 8 ∧ gK (zG z) s < 4 ∧ gT (zG z) s < 8 ∧ 1 ≤ gC (zG z) s ∧ gC (zG z) s ≤ 9 := hgw.2.2
  have hn40 := hvp.2.2.2.1
  refine mx_aload_n (i := 0) (hi := rfl) (hl := rfl) (hd := dX10_clearText_0) ?_
  refine mx_getV (ci := 10) (k := 2) (nI (zN z)) dX10_clearText_1 k_1015 (by decide) rfl (by assumption) h2 ?_
  refine mx_istoreE_n (i := 1) (ls' := [some (.ref m), some (.int (nI (zN z)))]) (hi := rfl) (hd := dX10_clearText_4) (hn := by decide) (hok := rfl) (hls := rfl) ?_
  refine mx_aload_n (i := 0) (hi := rfl) (hl := rfl) (hd := dX10_clearText_5) ?_
  refine mx_iconstN 0 dX10_clearText_6 (by decide) ?_
  refine mx_putI (ci := 10) (k := 2) dX10_clearText_7 k_1015 (by decide) rfl rfl rfl rfl (by assumption) ?_
  refine mx_iload_n (i := 1) (hi := rfl) (hl := rfl) (hd := dX10_clearText_10) ?_
  exact mx_iret dX10_clearText_11 rfl rfl (⟨⟨rfl, hW.tx (fun b k q => by rw [mx_u_at, if_neg (by omega)]) (Nat.zero_le _) (by rw [mx_u_at, if_pos ⟨rfl, rfl⟩]) (fun i hi => absurd hi (Nat.not_lt_zero i)) (fun i hi => absurd hi (Nat.not_lt_zero i)), (mx_fr.rf _ _ _).u (by omega)⟩, rfl⟩)

theorem an_stepN {z : Zs} {s w : Nat} {f : Nat → Int32} (h : gaF f (zG z)) (hs : s < gN (zG z)) (hw : w ≤ 3) : f (3 + 4 * s + w) = nI (an_step z s w) := by
  obtain ⟨a, b, c, d⟩ := h.2.2.2 s hs
  rcases (show w = 0 ∨ w = 1 ∨ w = 2 ∨ w = 3 by omega) with rfl | rfl | rfl | rfl
  · rw [an_step_0]; exact a
  · rw [an_step_1]; exact b
  · rw [an_step_2]; exact c
  · rw [an_step_3]; exact d

set_option maxHeartbeats 4000000 in
set_option maxRecDepth 100000 in
theorem mt_step (G : mx_G) (I : mx_I) (m : Nat) (z : Zs) (hW : mW G I m z) (s w : Int32) : mx_CTi yX10_step mX10_step 3 [.ref m, .int s, .int w] G I (fun rv I1 => I1 m 0 = nI (fl_step z s w) ∧ mx_fr I I1 m (m + 23) ∧ ((fl_step z s w) = 0 → rv = some (.int (nI (an_step z s.toInt.toNat w.toInt.toNat))) ∧ mW G I1 m (z)) ∧ (¬ (fl_step z s w) = 0 → (∃ w9, rv = some (.int w9)) ∧ mW G I1 m z)) := by
  refine mx_start (k := 0) (by decide) rfl rfl (fun h => nomatch h) (Nat.le_of_ble_eq_true rfl) ?_
  show mx_V mX10_step mx_S0 3 0 0 0 [some (.ref m), some (.int s), some (.int w)] [] G I (fun rv Gz Iz => (fun rv I1 => I1 m 0 = nI (fl_step z s w) ∧ mx_fr I I1 m (m + 23) ∧ ((fl_step z s w) = 0 → rv = some (.int (nI (an_step z s.toInt.toNat w.toInt.toNat))) ∧ mW G I1 m (z)) ∧ (¬ (fl_step z s w) = 0 → (∃ w9, rv = some (.int w9)) ∧ mW G I1 m z)) rv Iz ∧ Gz = G) (fun _ _ _ => False)
  have hs0 : oMD G m := hW.1
  have hs1 := hs0
  have hW9 := hW
  obtain ⟨tgm, -, -, ⟨r_now, t_now, l_now⟩, -⟩ := hs1
  obtain ⟨-, hsz, ⟨hn110, h2, htx, htc⟩, ⟨hvp, hN24⟩, ⟨hc14, h8, hdi⟩, hke⟩ := hW9
  have hN24 : gN (zG z) ≤ 24 := hN24
  have hgw : wfG (zG z) := hvp.1.1
  have hP8 : gP (zG z) ≤ 8 := hgw.1
  have hgb : ∀ s, s < gN (zG z) → gF (zG z) s < 8 ∧ gK (zG z) s < 4 ∧ gT (zG z) s < 8 ∧ 1 ≤ gC (zG z) s ∧ gC (zG z) s ≤ 9 := hgw.2.2
  have hn40 := hvp.2.2.2.1
  have J33 : ∀ (_ : Unit), mx_V mX10_step mx_S0 3 0 0 33 [some (.ref m), some (.int s), some (.int w)] [.int (nI (fl_step z s w)), .ref m] G I (fun rv Gz Iz => (fun rv I1 => I1 m 0 = nI (fl_step z s w) ∧ mx_fr I I1 m (m + 23) ∧ ((fl_step z s w) = 0 → rv = some (.int (nI (an_step z s.toInt.toNat w.toInt.toNat))) ∧ mW G I1 m (z)) ∧ (¬ (fl_step z s w) = 0 → (∃ w9, rv = some (.int w9)) ∧ mW G I1 m z)) rv Iz ∧ Gz = G) (fun _ _ _ => False) := by
    intro _ 
    refine mx_callVi (ci := 10) (As := [.int (nI (fl_step z s w))]) (rest := []) dX10_step_33 (mt_refused G I m hs0 (fl_step z s w) (by unfold fl_step; (repeat' split) <;> omega)) km_X10_refused rfl k_1122 k_1124 k_29 (by assumption) rfl rfl (Nat.le_of_ble_eq_true rfl) (by decide) (fun r1 Ir h2 => ?_)
    obtain ⟨e9, er⟩ := h2
    subst e9
    have hr0 : Ir m 0 = nI (fl_step z s w) := by rw [er, mx_u_at, if_pos ⟨rfl, rfl⟩]
    have hrf : mx_fr I Ir m (m + 23) := by rw [er]; exact (mx_fr.rf _ _ _).u (by omega)
    have hW1 : mW G Ir m z := hW.k (fun b k q => by rw [er, mx_u_at, if_neg (by omega)])
    clear er
    refine mx_ifB_eq 41 dX10_step_36 (by decide) (fun c36 => ?_) (fun c36 => ?_)
    · skip
      have hm0 : fl_step z s w = 0 := by omega
      have k1 : (0 ≤ s.toInt ∧ s.toInt < (gN (zG z) : Int)) ∧ (0 ≤ w.toInt ∧ w.toInt ≤ 3) := by
        unfold fl_step at hm0
        (repeat' split at hm0) <;> first | omega | (simp_all; done) | (refine ⟨?_, ?_⟩ <;> omega)
      clear hsz h2 htx htc hvp hdi hke h8
      have hs0 : oMD G m := hW1.1
      have hs1 := hs0
      have hW9 := hW1
      obtain ⟨tgm, -, -, ⟨r_now, t_now, l_now⟩, -⟩ := hs1
      obtain ⟨-, hsz, ⟨hn110, h2, htx, htc⟩, ⟨hvp, hN24⟩, ⟨hc14, h8, hdi⟩, hke⟩ := hW9
      have hN24 : gN (zG z) ≤ 24 := hN24
      have hgw : wfG (zG z) := hvp.1.1
      have hP8 : gP (zG z) ≤ 8 := hgw.1
      have hgb : ∀ s, s < gN (zG z) → gF (zG z) s < 8 ∧ gK (zG z) s < 4 ∧ gT (zG z) s < 8 ∧ 1 ≤ gC (zG z) s ∧ gC (zG z) s ≤ 9 := hgw.2.2
      have hn40 := hvp.2.2.2.1
      refine mx_aload_n (i := 0) (hi := rfl) (hl := rfl) (hd := dX10_step_41) ?_
      refine mx_getR (ci := 10) (k := 5) (r := (m + 3)) dX10_step_42 k_1018 (by decide) rfl (by assumption) (by assumption) (by omega) ?_
      refine mx_iload_n (i := 1) (hi := rfl) (hl := rfl) (hd := dX10_step_45) ?_
      refine mx_callSp (As := [.int s]) (rest := [.ref (m + 3)]) dX10_step_46 ((mt_at G Ir s.toInt.toNat).eq (by rw [mx_nn k1.1.1]) rfl) km_X10_at rfl k_1180 k_1181 rfl rfl (Nat.le_of_ble_eq_true rfl) (by decide) ?_
      refine mx_iload_n (i := 2) (hi := rfl) (hl := rfl) (hd := dX10_step_49) ?_
      refine mx_top (mx_nn k1.2.1).symm ?_
      refine mx_iaddN dX10_step_50 ?_
      refine mx_ialdV (3 + 4 * s.toInt.toNat + w.toInt.toNat) (nI (an_step z s.toInt.toNat w.toInt.toNat)) dX10_step_51 (by assumption) ⟨rfl, by rw [l_now]; have := tn_lt k1.1; omega, by rw [l_now]; decide⟩ (an_stepN hvp.1 (tn_lt k1.1) (by omega)) ?_
      exact mx_iret dX10_step_52 rfl rfl (⟨⟨hr0, hrf, fun _ => ⟨rfl, hW1⟩, fun z9 => absurd hm0 z9⟩, rfl⟩)
    · skip
      refine mx_iconstN 0 dX10_step_39 (by decide) ?_
      exact mx_iret dX10_step_40 rfl rfl (⟨⟨hr0, hrf, fun z9 => absurd z9 (by omega), fun _ => ⟨⟨_, rfl⟩, hW1⟩⟩, rfl⟩)
  refine mx_aload_n (i := 0) (hi := rfl) (hl := rfl) (hd := dX10_step_0) ?_
  refine mx_aload_n (i := 0) (hi := rfl) (hl := rfl) (hd := dX10_step_1) ?_
  refine mx_getR (ci := 10) (k := 5) (r := (m + 3)) dX10_step_2 k_1018 (by decide) rfl (by assumption) (by assumption) (by omega) ?_
  refine mx_iload_n (i := 1) (hi := rfl) (hl := rfl) (hd := dX10_step_5) ?_
  refine mx_callSp (As := [.ref (m + 3), .int s]) (rest := [.ref m]) dX10_step_6 (mt_isStep G I (m + 3) (zG z) t_now l_now hvp.1 s) km_X10_isStep rfl k_1235 k_1236 rfl rfl (Nat.le_of_ble_eq_true rfl) (by decide) ?_
  refine mx_ifB_ne 16 dX10_step_9 (by decide) (fun c9 => ?_) (fun c9 => ?_)
  · skip
    refine mx_iload_n (i := 2) (hi := rfl) (hl := rfl) (hd := dX10_step_16) ?_
    refine mx_i2l (hv := rfl) (hd := dX10_step_17) ?_
    refine mx_lconst (v := 0) (by decide) dX10_step_18 ?_
    refine mx_ldc2 (v := (3)) k_1238 dX10_step_19 ?_
    refine mx_callSp (As := [.long w.toInt64, .long (0 : Int64), .long (3)]) (rest := [.ref m]) dX10_step_22 (mt_in G I (w.toInt64) (0 : Int64) (3 : Int64)) km_X10_in rfl k_1119 k_1120 rfl rfl (Nat.le_of_ble_eq_true rfl) (by decide) ?_
    refine mx_top (y := mx_b (decide (0 ≤ w.toInt ∧ w.toInt ≤ 3))) (congrArg mx_b (decide_eq_decide.mpr ((in_l (x := 0) (y := 3) rfl rfl).trans (by omega)))) ?_
    refine mx_ifB_eq 32 dX10_step_25 (by decide) (fun c25 => ?_) (fun c25 => ?_)
    · skip
      refine mx_iconstN 2 dX10_step_32 (by decide) ?_
      refine mx_top (y := nI (fl_step z s w)) (congrArg nI (by unfold fl_step; (repeat' split) <;> first | omega | simp_all)) ?_
      exact J33 ()
    · skip
      refine mx_iconstN 0 dX10_step_28 (by decide) ?_
      refine mx_goto (tgt := 33) dX10_step_29 (by decide) ?_
      refine mx_top (y := nI (fl_step z s w)) (congrArg nI (by unfold fl_step; (repeat' split) <;> first | omega | simp_all)) ?_
      exact J33 ()
  · skip
    refine mx_iconstN 1 dX10_step_12 (by decide) ?_
    refine mx_goto (tgt := 33) dX10_step_13 (by decide) ?_
    refine mx_top (y := nI (fl_step z s w)) (congrArg nI (by unfold fl_step; (repeat' split) <;> first | omega | simp_all)) ?_
    exact J33 ()

theorem fl_find_0 {z : Zs} {p k q : Int32} (h : fl_find z p k q = 0) : ((0 ≤ p.toInt ∧ p.toInt < (gP (zG z) : Int)) ∧ (0 ≤ q.toInt ∧ q.toInt < (gP (zG z) : Int))) ∧ (¬ p = q ∧ 0 ≤ k.toInt ∧ k.toInt < 4) := by
  unfold fl_find at h
  split at h
  · cases h
  · next c1 =>
    split at h
    · cases h
    · next c2 => exact ⟨Classical.not_not.mp c1, Classical.not_not.mp c2⟩

set_option maxHeartbeats 4000000 in
set_option maxRecDepth 100000 in
theorem mt_find (G : mx_G) (I : mx_I) (m : Nat) (z : Zs) (hW : mW G I m z) (p k q : Int32) : mx_CTi yX10_find mX10_find 3 [.ref m, .int p, .int k, .int q] G I (fun rv I1 => I1 m 0 = nI (fl_find z p k q) ∧ mx_fr I I1 m (m + 23) ∧ ((fl_find z p k q) = 0 → rv = some (.int (oI (an_find z p.toInt.toNat k.toInt.toNat q.toInt.toNat))) ∧ mW G I1 m (z)) ∧ (¬ (fl_find z p k q) = 0 → (∃ w9, rv = some (.int w9)) ∧ mW G I1 m z)) := by
  refine mx_start (k := 0) (by decide) rfl rfl (fun h => nomatch h) (Nat.le_of_ble_eq_true rfl) ?_
  show mx_V mX10_find mx_S0 3 0 0 0 [some (.ref m), some (.int p), some (.int k), some (.int q)] [] G I (fun rv Gz Iz => (fun rv I1 => I1 m 0 = nI (fl_find z p k q) ∧ mx_fr I I1 m (m + 23) ∧ ((fl_find z p k q) = 0 → rv = some (.int (oI (an_find z p.toInt.toNat k.toInt.toNat q.toInt.toNat))) ∧ mW G I1 m (z)) ∧ (¬ (fl_find z p k q) = 0 → (∃ w9, rv = some (.int w9)) ∧ mW G I1 m z)) rv Iz ∧ Gz = G) (fun _ _ _ => False)
  have hs0 : oMD G m := hW.1
  have hs1 := hs0
  have hW9 := hW
  obtain ⟨tgm, -, -, ⟨r_now, t_now, l_now⟩, -⟩ := hs1
  obtain ⟨-, hsz, ⟨hn110, h2, htx, htc⟩, ⟨hvp, hN24⟩, ⟨hc14, h8, hdi⟩, hke⟩ := hW9
  have hN24 : gN (zG z) ≤ 24 := hN24
  have hgw : wfG (zG z) := hvp.1.1
  have hP8 : gP (zG z) ≤ 8 := hgw.1
  have hgb : ∀ s, s < gN (zG z) → gF (zG z) s < 8 ∧ gK (zG z) s < 4 ∧ gT (zG z) s < 8 ∧ 1 ≤ gC (zG z) s ∧ gC (zG z) s ≤ 9 := hgw.2.2
  have hn40 := hvp.2.2.2.1
  have J49 : ∀ (_ : Unit), mx_V mX10_find mx_S0 3 0 0 49 [some (.ref m), some (.int p), some (.int k), some (.int q)] [.int (nI (fl_find z p k q)), .ref m] G I (fun rv Gz Iz => (fun rv I1 => I1 m 0 = nI (fl_find z p k q) ∧ mx_fr I I1 m (m + 23) ∧ ((fl_find z p k q) = 0 → rv = some (.int (oI (an_find z p.toInt.toNat k.toInt.toNat q.toInt.toNat))) ∧ mW G I1 m (z)) ∧ (¬ (fl_find z p k q) = 0 → (∃ w9, rv = some (.int w9)) ∧ mW G I1 m z)) rv Iz ∧ Gz = G) (fun _ _ _ => False) := by
    intro _ 
    refine mx_callVi (ci := 10) (As := [.int (nI (fl_find z p k q))]) (rest := []) dX10_find_49 (mt_refused G I m hs0 (fl_find z p k q) (by unfold fl_find; (repeat' split) <;> omega)) km_X10_refused rfl k_1122 k_1124 k_29 (by assumption) rfl rfl (Nat.le_of_ble_eq_true rfl) (by decide) (fun r1 Ir h2 => ?_)
    obtain ⟨e9, er⟩ := h2
    subst e9
    have hr0 : Ir m 0 = nI (fl_find z p k q) := by rw [er, mx_u_at, if_pos ⟨rfl, rfl⟩]
    have hrf : mx_fr I Ir m (m + 23) := by rw [er]; exact (mx_fr.rf _ _ _).u (by omega)
    have hW1 : mW G Ir m z := hW.k (fun b k q => by rw [er, mx_u_at, if_neg (by omega)])
    clear er
    refine mx_ifB_eq 57 dX10_find_52 (by decide) (fun c52 => ?_) (fun c52 => ?_)
    · skip
      have hm0 : fl_find z p k q = 0 := by omega
      have k1 := fl_find_0 hm0
      clear hsz h2 htx htc hvp hdi hke h8
      have hs0 : oMD G m := hW1.1
      have hs1 := hs0
      have hW9 := hW1
      obtain ⟨tgm, -, -, ⟨r_now, t_now, l_now⟩, -⟩ := hs1
      obtain ⟨-, hsz, ⟨hn110, h2, htx, htc⟩, ⟨hvp, hN24⟩, ⟨hc14, h8, hdi⟩, hke⟩ := hW9
      have hN24 : gN (zG z) ≤ 24 := hN24
      have hgw : wfG (zG z) := hvp.1.1
      have hP8 : gP (zG z) ≤ 8 := hgw.1
      have hgb : ∀ s, s < gN (zG z) → gF (zG z) s < 8 ∧ gK (zG z) s < 4 ∧ gT (zG z) s < 8 ∧ 1 ≤ gC (zG z) s ∧ gC (zG z) s ≤ 9 := hgw.2.2
      have hn40 := hvp.2.2.2.1
      refine mx_aload_n (i := 0) (hi := rfl) (hl := rfl) (hd := dX10_find_57) ?_
      refine mx_getR (ci := 10) (k := 5) (r := (m + 3)) dX10_find_58 k_1018 (by decide) rfl (by assumption) (by assumption) (by omega) ?_
      refine mx_iload_n (i := 1) (hi := rfl) (hl := rfl) (hd := dX10_find_61) ?_
      refine mx_iload_n (i := 2) (hi := rfl) (hl := rfl) (hd := dX10_find_62) ?_
      refine mx_iload_n (i := 3) (hi := rfl) (hl := rfl) (hd := dX10_find_63) ?_
      refine mx_callSp (As := [.ref (m + 3), .int p, .int k, .int q]) (rest := []) dX10_find_64 (mt_foundR G Ir (m + 3) (zG z) t_now l_now hvp.1 p k q k1.1.1.1 k1.2.2.1 k1.1.2.1) km_X10_found rfl k_1177 k_1178 rfl rfl (Nat.le_of_ble_eq_true rfl) (by decide) ?_
      exact mx_iret dX10_find_67 rfl rfl (⟨⟨hr0, hrf, fun _ => ⟨rfl, hW1⟩, fun z9 => absurd hm0 z9⟩, rfl⟩)
    · skip
      refine mx_iconstN 0 dX10_find_55 (by decide) ?_
      exact mx_iret dX10_find_56 rfl rfl (⟨⟨hr0, hrf, fun z9 => absurd z9 (by omega), fun _ => ⟨⟨_, rfl⟩, hW1⟩⟩, rfl⟩)
  refine mx_aload_n (i := 0) (hi := rfl) (hl := rfl) (hd := dX10_find_0) ?_
  refine mx_aload_n (i := 0) (hi := rfl) (hl := rfl) (hd := dX10_find_1) ?_
  refine mx_getR (ci := 10) (k := 5) (r := (m + 3)) dX10_find_2 k_1018 (by decide) rfl (by assumption) (by assumption) (by omega) ?_
  refine mx_iload_n (i := 1) (hi := rfl) (hl := rfl) (hd := dX10_find_5) ?_
  refine mx_callSp (As := [.ref (m + 3), .int p]) (rest := [.ref m]) dX10_find_6 (mt_isPerson G I (m + 3) (zG z) t_now l_now hvp.1 p) km_X10_isPerson rfl k_1243 k_1244 rfl rfl (Nat.le_of_ble_eq_true rfl) (by decide) ?_
  refine mx_ifB_eq 23 dX10_find_9 (by decide) (fun c9 => ?_) (fun c9 => ?_)
  · skip
    refine mx_iconstN 1 dX10_find_23 (by decide) ?_
    refine mx_goto (tgt := 49) dX10_find_24 (by decide) ?_
    refine mx_top (y := nI (fl_find z p k q)) (congrArg nI (Eq.symm (by unfold fl_find; rw [if_pos (by first | exact fun q9 => c9 q9.1 | exact fun q9 => c20 q9.2)]))) ?_
    exact J49 ()
  · skip
    refine mx_aload_n (i := 0) (hi := rfl) (hl := rfl) (hd := dX10_find_12) ?_
    refine mx_getR (ci := 10) (k := 5) (r := (m + 3)) dX10_find_13 k_1018 (by decide) rfl (by assumption) (by assumption) (by omega) ?_
    refine mx_iload_n (i := 3) (hi := rfl) (hl := rfl) (hd := dX10_find_16) ?_
    refine mx_callSp (As := [.ref (m + 3), .int q]) (rest := [.ref m]) dX10_find_17 (mt_isPerson G I (m + 3) (zG z) t_now l_now hvp.1 q) km_X10_isPerson rfl k_1243 k_1244 rfl rfl (Nat.le_of_ble_eq_true rfl) (by decide) ?_
    refine mx_ifB_ne 27 dX10_find_20 (by decide) (fun c20 => ?_) (fun c20 => ?_)
    · skip
      refine mx_iload_n (i := 1) (hi := rfl) (hl := rfl) (hd := dX10_find_27) ?_
      refine mx_iload_n (i := 3) (hi := rfl) (hl := rfl) (hd := dX10_find_28) ?_
      refine mx_icmp_eq (tgt := 44) dX10_find_29 (by decide) (fun c29 => ?_) (fun c29 => ?_)
      · skip
        refine mx_iconstN 2 dX10_find_44 (by decide) ?_
        refine mx_goto (tgt := 49) dX10_find_45 (by decide) ?_
        refine mx_top (y := nI (fl_find z p k q)) (congrArg nI (Eq.symm (by unfold fl_find; rw [if_neg (fun q9 => q9 ⟨c9, c20⟩), if_pos (by first | exact fun q9 => q9.1 c29 | exact fun q9 => c41 q9.2)]))) ?_
        exact J49 ()
      · skip
        refine mx_iload_n (i := 2) (hi := rfl) (hl := rfl) (hd := dX10_find_32) ?_
        refine mx_i2l (hv := rfl) (hd := dX10_find_33) ?_
        refine mx_lconst (v := 0) (by decide) dX10_find_34 ?_
        refine mx_ldc2 (v := (3)) k_1238 dX10_find_35 ?_
        refine mx_callSp (As := [.long k.toInt64, .long (0 : Int64), .long (3)]) (rest := [.ref m]) dX10_find_38 (mt_in G I (k.toInt64) (0 : Int64) (3 : Int64)) km_X10_in rfl k_1119 k_1120 rfl rfl (Nat.le_of_ble_eq_true rfl) (by decide) ?_
        refine mx_top (y := mx_b (decide (0 ≤ k.toInt ∧ k.toInt < 4))) (congrArg mx_b (decide_eq_decide.mpr ((in_l (x := 0) (y := 3) rfl rfl).trans (by omega)))) ?_
        refine mx_ifB_ne 48 dX10_find_41 (by decide) (fun c41 => ?_) (fun c41 => ?_)
        · skip
          refine mx_iconstN 0 dX10_find_48 (by decide) ?_
          refine mx_top (y := nI (fl_find z p k q)) (congrArg nI (Eq.symm (by unfold fl_find; rw [if_neg (fun q9 => q9 ⟨c9, c20⟩), if_neg (fun q9 => q9 ⟨c29, c41⟩)]))) ?_
          exact J49 ()
        · skip
          refine mx_iconstN 2 dX10_find_44 (by decide) ?_
          refine mx_goto (tgt := 49) dX10_find_45 (by decide) ?_
          refine mx_top (y := nI (fl_find z p k q)) (congrArg nI (Eq.symm (by unfold fl_find; rw [if_neg (fun q9 => q9 ⟨c9, c20⟩), if_pos (by first | exact fun q9 => q9.1 c29 | exact fun q9 => c41 q9.2)]))) ?_
          exact J49 ()
    · skip
      refine mx_iconstN 1 dX10_find_23 (by decide) ?_
      refine mx_goto (tgt := 49) dX10_find_24 (by decide) ?_
      refine mx_top (y := nI (fl_find z p k q)) (congrArg nI (Eq.symm (by unfold fl_find; rw [if_pos (by first | exact fun q9 => c9 q9.1 | exact fun q9 => c20 q9.2)]))) ?_
      exact J49 ()

set_option maxHeartbeats 4000000 in
set_option maxRecDepth 100000 in
theorem mt_patternAt (G : mx_G) (I : mx_I) (m : Nat) (z : Zs) (hW : mW G I m z) (i : Int32) : mx_CTi yX10_patternAt mX10_patternAt 2 [.ref m, .int i] G I (fun rv I1 => I1 m 0 = nI (fl_patternAt i - 1) ∧ mx_fr I I1 m (m + 23) ∧ ((fl_patternAt i - 1) = 0 → rv = some (.int (an_patternAt z i.toInt.toNat)) ∧ mW G I1 m (z)) ∧ (¬ (fl_patternAt i - 1) = 0 → (∃ w9, rv = some (.int w9)) ∧ mW G I1 m z)) := by
  refine mx_start (k := 0) (by decide) rfl rfl (fun h => nomatch h) (Nat.le_of_ble_eq_true rfl) ?_
  show mx_V mX10_patternAt mx_S0 2 0 0 0 [some (.ref m), some (.int i)] [] G I (fun rv Gz Iz => (fun rv I1 => I1 m 0 = nI (fl_patternAt i - 1) ∧ mx_fr I I1 m (m + 23) ∧ ((fl_patternAt i - 1) = 0 → rv = some (.int (an_patternAt z i.toInt.toNat)) ∧ mW G I1 m (z)) ∧ (¬ (fl_patternAt i - 1) = 0 → (∃ w9, rv = some (.int w9)) ∧ mW G I1 m z)) rv Iz ∧ Gz = G) (fun _ _ _ => False)
  have hs0 : oMD G m := hW.1
  have hs1 := hs0
  have hW9 := hW
  obtain ⟨tgm, -, -, ⟨r_now, t_now, l_now⟩, -⟩ := hs1
  obtain ⟨-, hsz, ⟨hn110, h2, htx, htc⟩, ⟨hvp, hN24⟩, ⟨hc14, h8, hdi⟩, hke⟩ := hW9
  have hN24 : gN (zG z) ≤ 24 := hN24
  have hgw : wfG (zG z) := hvp.1.1
  have hP8 : gP (zG z) ≤ 8 := hgw.1
  have hgb : ∀ s, s < gN (zG z) → gF (zG z) s < 8 ∧ gK (zG z) s < 4 ∧ gT (zG z) s < 8 ∧ 1 ≤ gC (zG z) s ∧ gC (zG z) s ≤ 9 := hgw.2.2
  have hn40 := hvp.2.2.2.1
  have J10 : ∀ (_ : Unit), mx_V mX10_patternAt mx_S0 2 0 0 10 [some (.ref m), some (.int i)] [.int (nI (fl_patternAt i - 1)), .ref m] G I (fun rv Gz Iz => (fun rv I1 => I1 m 0 = nI (fl_patternAt i - 1) ∧ mx_fr I I1 m (m + 23) ∧ ((fl_patternAt i - 1) = 0 → rv = some (.int (an_patternAt z i.toInt.toNat)) ∧ mW G I1 m (z)) ∧ (¬ (fl_patternAt i - 1) = 0 → (∃ w9, rv = some (.int w9)) ∧ mW G I1 m z)) rv Iz ∧ Gz = G) (fun _ _ _ => False) := by
    intro _ 
    refine mx_callVi (ci := 10) (As := [.int (nI (fl_patternAt i - 1))]) (rest := []) dX10_patternAt_10 (mt_refused G I m hs0 (fl_patternAt i - 1) (by unfold fl_patternAt; (repeat' split) <;> omega)) km_X10_refused rfl k_1122 k_1124 k_29 (by assumption) rfl rfl (Nat.le_of_ble_eq_true rfl) (by decide) (fun r1 Ir h2 => ?_)
    obtain ⟨e9, er⟩ := h2
    subst e9
    have hr0 : Ir m 0 = nI (fl_patternAt i - 1) := by rw [er, mx_u_at, if_pos ⟨rfl, rfl⟩]
    have hrf : mx_fr I Ir m (m + 23) := by rw [er]; exact (mx_fr.rf _ _ _).u (by omega)
    have hW1 : mW G Ir m z := hW.k (fun b k q => by rw [er, mx_u_at, if_neg (by omega)])
    clear er
    refine mx_ifB_eq 18 dX10_patternAt_13 (by decide) (fun c13 => ?_) (fun c13 => ?_)
    · skip
      have hm0 : fl_patternAt i - 1 = 0 := by omega
      have k1 : 0 ≤ i.toInt := by
        unfold fl_patternAt at hm0
        (repeat' split at hm0) <;> first | omega | (simp_all; done) | (refine ⟨?_, ?_⟩ <;> omega)
      clear hsz h2 htx htc hvp hdi hke h8
      have hs0 : oMD G m := hW1.1
      have hs1 := hs0
      have hW9 := hW1
      obtain ⟨tgm, -, -, ⟨r_now, t_now, l_now⟩, -⟩ := hs1
      obtain ⟨-, hsz, ⟨hn110, h2, htx, htc⟩, ⟨hvp, hN24⟩, ⟨hc14, h8, hdi⟩, hke⟩ := hW9
      have hN24 : gN (zG z) ≤ 24 := hN24
      have hgw : wfG (zG z) := hvp.1.1
      have hP8 : gP (zG z) ≤ 8 := hgw.1
      have hgb : ∀ s, s < gN (zG z) → gF (zG z) s < 8 ∧ gK (zG z) s < 4 ∧ gT (zG z) s < 8 ∧ 1 ≤ gC (zG z) s ∧ gC (zG z) s ≤ 9 := hgw.2.2
      have hn40 := hvp.2.2.2.1
      refine mx_iload_n (i := 1) (hi := rfl) (hl := rfl) (hd := dX10_patternAt_18) ?_
      refine mx_aload_n (i := 0) (hi := rfl) (hl := rfl) (hd := dX10_patternAt_19) ?_
      refine mx_getR (ci := 10) (k := 5) (r := (m + 3)) dX10_patternAt_20 k_1018 (by decide) rfl (by assumption) (by assumption) (by omega) ?_
      refine mx_iconstN 2 dX10_patternAt_23 (by decide) ?_
      refine mx_ialdV 2 (nI ((zX z).2.1)) dX10_patternAt_24 (by assumption) ⟨rfl, by omega, by omega⟩ hvp.2.1 ?_
      refine mx_cmpRN_ge 40 dX10_patternAt_25 (by decide) (by omega) (fun c25 => ?_) (fun c25 => ?_)
      · skip
        refine mx_bipush (v := (-9)) (by decide) dX10_patternAt_40 ?_
        exact mx_iret dX10_patternAt_42 rfl rfl (⟨⟨hr0, hrf, fun _ => ⟨by unfold an_patternAt; rw [if_neg (by omega)], hW1⟩, fun z9 => absurd hm0 z9⟩, rfl⟩)
      · skip
        refine mx_aload_n (i := 0) (hi := rfl) (hl := rfl) (hd := dX10_patternAt_28) ?_
        refine mx_getR (ci := 10) (k := 5) (r := (m + 3)) dX10_patternAt_29 k_1018 (by decide) rfl (by assumption) (by assumption) (by omega) ?_
        refine mx_bipushN 103 dX10_patternAt_32 (by decide) ?_
        refine mx_iload_n (i := 1) (hi := rfl) (hl := rfl) (hd := dX10_patternAt_34) ?_
        refine mx_iadd dX10_patternAt_35 ?_
        refine mx_ialdV (103 + i.toInt.toNat) (nI ((zX z).2.2 i.toInt.toNat)) dX10_patternAt_36 (by assumption) ⟨by rw [← nI_add, mx_nn k1], by rw [l_now]; omega, by rw [l_now]; decide⟩ (hvp.2.2.1 i.toInt.toNat (by omega)) ?_
        refine mx_goto (tgt := 42) dX10_patternAt_37 (by decide) ?_
        exact mx_iret dX10_patternAt_42 rfl rfl (⟨⟨hr0, hrf, fun _ => ⟨by unfold an_patternAt; rw [if_pos (by omega)], hW1⟩, fun z9 => absurd hm0 z9⟩, rfl⟩)
    · skip
      refine mx_iconstN 0 dX10_patternAt_16 (by decide) ?_
      exact mx_iret dX10_patternAt_17 rfl rfl (⟨⟨hr0, hrf, fun z9 => absurd z9 (by omega), fun _ => ⟨⟨_, rfl⟩, hW1⟩⟩, rfl⟩)
  refine mx_aload_n (i := 0) (hi := rfl) (hl := rfl) (hd := dX10_patternAt_0) ?_
  refine mx_iload_n (i := 1) (hi := rfl) (hl := rfl) (hd := dX10_patternAt_1) ?_
  refine mx_ifR_ge 9 dX10_patternAt_2 (by decide) (fun c2 => ?_) (fun c2 => ?_)
  · skip
    refine mx_iconstN 0 dX10_patternAt_9 (by decide) ?_
    refine mx_top (y := nI (fl_patternAt i - 1)) (congrArg nI (by unfold fl_patternAt; (repeat' split) <;> first | omega | simp_all)) ?_
    exact J10 ()
  · skip
    refine mx_iconstN 1 dX10_patternAt_5 (by decide) ?_
    refine mx_goto (tgt := 10) dX10_patternAt_6 (by decide) ?_
    refine mx_top (y := nI (fl_patternAt i - 1)) (congrArg nI (by unfold fl_patternAt; (repeat' split) <;> first | omega | simp_all)) ?_
    exact J10 ()
