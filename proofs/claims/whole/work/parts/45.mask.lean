/-! THE REFERENCE: the methods that ask -/

/-- from whom a path to q fits -/
noncomputable def tcM (v : Gr) (A : Pa) (pr : Nat → Nat) (q : Nat) : Nat → Nat
  | 0 => 0
  | o + 1 => tcM v A pr q o ||| (if bR v A pr (tgA A q) o 0 = none then 0 else 2 ^ o)
noncomputable def am_about (z : Zs) (w : Nat) : Int32 := if w = 5 then nI (lpO (zG z) (vA (zX z)) (prM (zG z) none) (gP (zG z))).1 else if w = 7 then oI (lpO (zG z) (vA (zX z)) (prM (zG z) none) (gP (zG z))).2 else an_about z w
noncomputable def am_person (z : Zs) (p w : Nat) : Nat := if w = 2 then rcM (zG z) (vA (zX z)) (prM (zG z) none) p (gP (zG z)) else if w = 3 then tcM (zG z) (vA (zX z)) (prM (zG z) none) p (gP (zG z)) else an_person z p w
noncomputable abbrev bM (z : Zs) (p q : Nat) : Option (Nat × Nat) := bR (zG z) (vA (zX z)) (prM (zG z) none) (tgA (vA (zX z)) q) p 0
noncomputable def am_cost (z : Zs) (p q : Nat) : Option Nat := (bM z p q).map Prod.fst
noncomputable def am_length (z : Zs) (p q : Nat) : Option Nat := (bM z p q).map Prod.snd
noncomputable def am_needed (z : Zs) (p q : Nat) : Nat := if bM z p q = none then 0 else ndM (zG z) (vA (zX z)) p q (gN (zG z))
theorem am_c {x : Option (Nat × Nat)} (he : eb x) (h : ¬ 100000000 ≤ enM x) : nI (enM x / 1000) = oI (x.map Prod.fst) := congrArg oI (en_div he (fun q => h ((en_lt he).mpr q)))
theorem am_l {x : Option (Nat × Nat)} (he : eb x) (h : ¬ 100000000 ≤ enM x) : nI (enM x % 1000) = oI (x.map Prod.snd) := congrArg oI (en_mod he (fun q => h ((en_lt he).mpr q)))
theorem am_n {x : Option (Nat × Nat)} (he : eb x) (h : 100000000 ≤ enM x) {f : Nat × Nat → Nat} : -9 = oI (x.map f) := by rw [(en_lt he).mp h]; rfl
theorem bM_eb {I : mx_I} {m : Nat} {z : Zs} (h : vpF (I (m + 3)) (zX z)) {p : Nat} (hp : p < 8) (q : Nat) : eb (bM z p q) := bR_eb h.1.1 (wfP_vA h.2.2.2) (fun s hs => prM_9 h.1.1 none s hs) hp (by decide)
theorem fl_two_0 {z : Zs} {p q : Int32} (h : fl_two z p q = 0) : (0 ≤ p.toInt ∧ p.toInt < (gP (zG z) : Int)) ∧ (0 ≤ q.toInt ∧ q.toInt < (gP (zG z) : Int)) := by
  unfold fl_two at h
  split at h
  · cases h
  · next c => exact Classical.not_not.mp c
theorem fl_about_0 {w : Int32} (h : fl_about w - 1 = 0) : 0 ≤ w.toInt ∧ w.toInt ≤ 7 := by
  unfold fl_about at h
  split at h
  · cases h
  · next c => exact Classical.not_not.mp c

theorem ac_em {A : Pa} {la : Nat} {em : Bool} (h : la.testBit 0 = false) (e : pAc A = la ||| (if em = true then 1 else 0)) : em = true ↔ ¬ 1 &&& pAc A = 0 := by
  have h1 : (pAc A).testBit 0 = em := by
    rw [e, Nat.testBit_or, h, Bool.false_or]
    cases em <;> rfl
  rw [← h1, Nat.testBit_zero, Nat.and_comm, Nat.and_one_is_mod]
  rw [decide_eq_true_eq]
  omega

set_option maxHeartbeats 4000000 in
set_option maxRecDepth 100000 in
theorem mt_about (G : mx_G) (I : mx_I) (m : Nat) (z : Zs) (hW : mW G I m z) (w : Int32) : mx_CTi yX10_about mX10_about 5 [.ref m, .int w] G I (fun rv I1 => I1 m 0 = nI (fl_about w - 1) ∧ mx_fr I I1 m (m + 23) ∧ ((fl_about w - 1) = 0 → rv = some (.int (am_about z w.toInt.toNat)) ∧ mW G I1 m (z)) ∧ (¬ (fl_about w - 1) = 0 → (∃ w9, rv = some (.int w9)) ∧ mW G I1 m z)) := by
  refine mx_start (k := 2) (by decide) rfl rfl (fun h => nomatch h) (Nat.le_of_ble_eq_true rfl) ?_
  show mx_V mX10_about mx_S0 5 0 0 0 [some (.ref m), some (.int w), none, none] [] G I (fun rv Gz Iz => (fun rv I1 => I1 m 0 = nI (fl_about w - 1) ∧ mx_fr I I1 m (m + 23) ∧ ((fl_about w - 1) = 0 → rv = some (.int (am_about z w.toInt.toNat)) ∧ mW G I1 m (z)) ∧ (¬ (fl_about w - 1) = 0 → (∃ w9, rv = some (.int w9)) ∧ mW G I1 m z)) rv Iz ∧ Gz = G) (fun _ _ _ => False)
  have hs0 : oMD G m := hW.1
  have hs1 := hs0
  have hW9 := hW
  obtain ⟨tgm, -, -, ⟨r_now, t_now, l_now⟩, -⟩ := hs1
  obtain ⟨-, hsz, ⟨hn110, h2, htx, htc⟩, ⟨hvp, hN24⟩, ⟨hc14, h8, hdi⟩, hke⟩ := hW9
  have hN24 : gN (zG z) ≤ 24 := hN24
  have hgw : wfG (zG z) := hvp.1.1
  have hP8 : gP (zG z) ≤ 8 := hgw.1
  have hgb : ∀ s, s < gN (zG z) → gF (zG z) s < 8 ∧ gK (zG z) s < 4 ∧ gT (zG z) s < 8 ∧ 1 ≤ gC (zG z) s ∧ gC (zG z) s ≤ 9 := hgw.2.2
  have hn40 := hvp.2.2.2.1
  have J18 : ∀ (_ : Unit), mx_V mX10_about mx_S0 5 0 0 18 [some (.ref m), some (.int w), none, none] [.int (nI (fl_about w - 1)), .ref m] G I (fun rv Gz Iz => (fun rv I1 => I1 m 0 = nI (fl_about w - 1) ∧ mx_fr I I1 m (m + 23) ∧ ((fl_about w - 1) = 0 → rv = some (.int (am_about z w.toInt.toNat)) ∧ mW G I1 m (z)) ∧ (¬ (fl_about w - 1) = 0 → (∃ w9, rv = some (.int w9)) ∧ mW G I1 m z)) rv Iz ∧ Gz = G) (fun _ _ _ => False) := by
    intro _ 
    refine mx_callVi (ci := 10) (As := [.int (nI (fl_about w - 1))]) (rest := []) dX10_about_18 (mt_refused G I m hs0 (fl_about w - 1) (by unfold fl_about; (repeat' split) <;> omega)) km_X10_refused rfl k_1122 k_1124 k_29 (by assumption) rfl rfl (Nat.le_of_ble_eq_true rfl) (by decide) (fun r1 Ir h2 => ?_)
    obtain ⟨e9, er⟩ := h2
    subst e9
    have hr0 : Ir m 0 = nI (fl_about w - 1) := by rw [er, mx_u_at, if_pos ⟨rfl, rfl⟩]
    have hrf : mx_fr I Ir m (m + 23) := by rw [er]; exact (mx_fr.rf _ _ _).u (by omega)
    have hW1 : mW G Ir m z := hW.k (fun b k q => by rw [er, mx_u_at, if_neg (by omega)])
    clear er
    refine mx_ifB_eq 26 dX10_about_21 (by decide) (fun c21 => ?_) (fun c21 => ?_)
    · skip
      have hm0 : fl_about w - 1 = 0 := by omega
      have k1 := fl_about_0 hm0
      clear hsz h2 htx htc hvp hdi hke h8
      have hs0 : oMD G m := hW1.1
      have hs1 := hs0
      have hW9 := hW1
      obtain ⟨tgm, -, -, ⟨r_now, t_now, l_now⟩, -, -, -, -, -, -, -, -, -, -, -, -, ⟨r_prices, t_prices, l_prices⟩, -⟩ := hs1
      obtain ⟨-, hsz, ⟨hn110, h2, htx, htc⟩, ⟨hvp, hN24⟩, ⟨hc14, h8, hdi⟩, hke⟩ := hW9
      have hN24 : gN (zG z) ≤ 24 := hN24
      have hgw : wfG (zG z) := hvp.1.1
      have hP8 : gP (zG z) ≤ 8 := hgw.1
      have hgb : ∀ s, s < gN (zG z) → gF (zG z) s < 8 ∧ gK (zG z) s < 4 ∧ gT (zG z) s < 8 ∧ 1 ≤ gC (zG z) s ∧ gC (zG z) s ≤ 9 := hgw.2.2
      have hn40 := hvp.2.2.2.1
      refine mx_aload_n (i := 0) (hi := rfl) (hl := rfl) (hd := dX10_about_26) ?_
      refine mx_aload_n (i := 0) (hi := rfl) (hl := rfl) (hd := dX10_about_27) ?_
      refine mx_getR (ci := 10) (k := 5) (r := (m + 3)) dX10_about_28 k_1018 (by decide) rfl (by assumption) (by assumption) (by omega) ?_
      refine mx_callVi (ci := 10) (As := [.ref (m + 3)]) (rest := []) dX10_about_31 (mt_compileOf G Ir m hs0 (m + 3) (zX z) (Or.inl rfl) t_now l_now hvp) km_X10_compileOf rfl k_1198 k_1200 k_39 (by assumption) rfl rfl (Nat.le_of_ble_eq_true rfl) (by decide) (fun r3 I2 h4 => ?_)
      obtain ⟨e9, q1, q2⟩ := h4
      subst e9
      have hg2 : gaF (I2 (m + 3)) (zG z) := hvp.1.c (by omega) (fun k _ => by rw [q2.1 (m + 3) (by omega)])
      refine mx_aload_n (i := 0) (hi := rfl) (hl := rfl) (hd := dX10_about_34) ?_
      refine mx_aload_n (i := 0) (hi := rfl) (hl := rfl) (hd := dX10_about_35) ?_
      refine mx_getR (ci := 10) (k := 5) (r := (m + 3)) dX10_about_36 k_1018 (by decide) rfl (by assumption) (by assumption) (by omega) ?_
      refine mx_bipush (v := (-9)) (by decide) dX10_about_39 ?_
      refine mx_callVi (ci := 10) (As := [.ref (m + 3), .int (-9)]) (rest := []) dX10_about_41 (mt_layPrices G I2 m hs0 (m + 3) (zG z) t_now l_now hg2 (by omega) none (fun z hz => (nomatch hz))) km_X10_layPrices rfl k_1202 k_1204 k_40 (by assumption) rfl rfl (Nat.le_of_ble_eq_true rfl) (by decide) (fun r5 I3 h6 => ?_)
      obtain ⟨e9, q3, q4⟩ := h6
      subst e9
      have ha3 : auN I3 m (vA (zX z)) := q1.k (fun j _ _ => q4 _ _ (by omega)) (fun b k _ _ => q4 _ _ (by omega))
      have hg3 : gaF (I3 (m + 3)) (zG z) := hg2.c (by omega) (fun k _ => q4 _ _ (by omega))
      have hS3 : mS Ir I3 m := q2.S.tr (mS.of (fun b k hb => q4 b k (by omega)))
      have hW3 : mW G I3 m z := hW1.S hS3
      have hvp3 : vpF (I3 (m + 3)) (zX z) := hW3.2.2.2.1.1
      obtain ⟨la9, em9, -, hem9, -, hla9, hac9⟩ := ha3.2.1
      have hem := ac_em hla9 hac9
      refine mx_iload_n (i := 1) (hi := rfl) (hl := rfl) (hd := dX10_about_44) ?_
      obtain ⟨wn, hwn, hw⟩ : ∃ wn, wn ≤ 7 ∧ w = nI wn := ⟨w.toInt.toNat, by omega, (mx_nn (by omega)).symm⟩
      have hk : w.toInt.toNat = wn := by rw [hw]; exact nI_tt (by omega)
      rcases (show wn = 0 ∨ wn = 1 ∨ wn = 2 ∨ wn = 3 ∨ wn = 4 ∨ wn = 5 ∨ wn = 6 ∨ wn = 7 by omega) with rfl | rfl | rfl | rfl | rfl | rfl | rfl | rfl
      · refine mx_top (y := nI 0) hw ?_
        refine mx_tabIn (tgt := 88) dX10_about_45 (by decide) (by decide) rfl (by decide) ?_
        refine mx_aload_n (i := 0) (hi := rfl) (hl := rfl) (hd := dX10_about_88) ?_
        refine mx_getR (ci := 10) (k := 5) (r := (m + 3)) dX10_about_89 k_1018 (by decide) rfl (by assumption) (by assumption) (by omega) ?_
        refine mx_iconstN 0 dX10_about_92 (by decide) ?_
        refine mx_ialdV 0 (nI (gP (zG z))) dX10_about_93 (by assumption) ⟨rfl, by omega, by omega⟩ hvp3.1.2.1 ?_
        exact mx_iret dX10_about_94 rfl rfl (⟨⟨(hS3.2 0 (by omega)).trans hr0, mt_fr hrf hS3.fr, fun _ => ⟨by rw [hk]; unfold am_about; rw [if_neg (by decide), if_neg (by decide), an_about_0], hW1.S hS3⟩, fun z9 => absurd hm0 z9⟩, rfl⟩)
      · refine mx_top (y := nI 1) hw ?_
        refine mx_tabIn (tgt := 95) dX10_about_45 (by decide) (by decide) rfl (by decide) ?_
        refine mx_aload_n (i := 0) (hi := rfl) (hl := rfl) (hd := dX10_about_95) ?_
        refine mx_getR (ci := 10) (k := 5) (r := (m + 3)) dX10_about_96 k_1018 (by decide) rfl (by assumption) (by assumption) (by omega) ?_
        refine mx_iconstN 1 dX10_about_99 (by decide) ?_
        refine mx_ialdV 1 (nI (gN (zG z))) dX10_about_100 (by assumption) ⟨rfl, by omega, by omega⟩ hvp3.1.2.2.1 ?_
        exact mx_iret dX10_about_101 rfl rfl (⟨⟨(hS3.2 0 (by omega)).trans hr0, mt_fr hrf hS3.fr, fun _ => ⟨by rw [hk]; unfold am_about; rw [if_neg (by decide), if_neg (by decide), an_about_1], hW1.S hS3⟩, fun z9 => absurd hm0 z9⟩, rfl⟩)
      · refine mx_top (y := nI 2) hw ?_
        refine mx_tabIn (tgt := 102) dX10_about_45 (by decide) (by decide) rfl (by decide) ?_
        refine mx_aload_n (i := 0) (hi := rfl) (hl := rfl) (hd := dX10_about_102) ?_
        refine mx_getR (ci := 10) (k := 5) (r := (m + 3)) dX10_about_103 k_1018 (by decide) rfl (by assumption) (by assumption) (by omega) ?_
        refine mx_iconstN 2 dX10_about_106 (by decide) ?_
        refine mx_ialdV 2 (nI ((zX z).2.1)) dX10_about_107 (by assumption) ⟨rfl, by omega, by omega⟩ hvp3.2.1 ?_
        exact mx_iret dX10_about_108 rfl rfl (⟨⟨(hS3.2 0 (by omega)).trans hr0, mt_fr hrf hS3.fr, fun _ => ⟨by rw [hk]; unfold am_about; rw [if_neg (by decide), if_neg (by decide), an_about_2], hW1.S hS3⟩, fun z9 => absurd hm0 z9⟩, rfl⟩)
      · refine mx_top (y := nI 3) hw ?_
        refine mx_tabIn (tgt := 109) dX10_about_45 (by decide) (by decide) rfl (by decide) ?_
        refine mx_aload_n (i := 0) (hi := rfl) (hl := rfl) (hd := dX10_about_109) ?_
        refine mx_getV (ci := 10) (k := 11) (nI (pL (vA (zX z)))) dX10_about_110 k_1024 (by decide) rfl (by assumption) ha3.1 ?_
        exact mx_iret dX10_about_113 rfl rfl (⟨⟨(hS3.2 0 (by omega)).trans hr0, mt_fr hrf hS3.fr, fun _ => ⟨by rw [hk]; unfold am_about; rw [if_neg (by decide), if_neg (by decide), an_about_3], hW1.S hS3⟩, fun z9 => absurd hm0 z9⟩, rfl⟩)
      · refine mx_top (y := nI 4) hw ?_
        refine mx_tabIn (tgt := 114) dX10_about_45 (by decide) (by decide) rfl (by decide) ?_
        refine mx_aload_n (i := 0) (hi := rfl) (hl := rfl) (hd := dX10_about_114) ?_
        refine mx_getV (ci := 10) (k := 12) (mx_b (decide (em9 = true)) : Int32) dX10_about_115 k_1025 (by decide) rfl (by assumption) (hem9.trans (congrArg mx_b Bool.decide_eq_true.symm)) ?_
        refine mx_ifB_eq 125 dX10_about_118 (by decide) (fun c118 => ?_) (fun c118 => ?_)
        · skip
          refine mx_iconstN 0 dX10_about_125 (by decide) ?_
          exact mx_iret dX10_about_126 rfl rfl (⟨⟨(hS3.2 0 (by omega)).trans hr0, mt_fr hrf hS3.fr, fun _ => ⟨by rw [hk]; unfold am_about; rw [if_neg (by decide), if_neg (by decide), an_about_4]; rw [if_neg (fun q => c118 (hem.mpr q))], hW1.S hS3⟩, fun z9 => absurd hm0 z9⟩, rfl⟩)
        · skip
          refine mx_iconstN 1 dX10_about_121 (by decide) ?_
          refine mx_goto (tgt := 126) dX10_about_122 (by decide) ?_
          exact mx_iret dX10_about_126 rfl rfl (⟨⟨(hS3.2 0 (by omega)).trans hr0, mt_fr hrf hS3.fr, fun _ => ⟨by rw [hk]; unfold am_about; rw [if_neg (by decide), if_neg (by decide), an_about_4]; rw [if_pos (hem.mp c118)], hW1.S hS3⟩, fun z9 => absurd hm0 z9⟩, rfl⟩)
      · refine mx_top (y := nI 5) hw ?_
        refine mx_tabIn (tgt := 158) dX10_about_45 (by decide) (by decide) rfl (by decide) ?_
        refine mx_aload_n (i := 0) (hi := rfl) (hl := rfl) (hd := dX10_about_158) ?_
        refine mx_aload_n (i := 0) (hi := rfl) (hl := rfl) (hd := dX10_about_159) ?_
        refine mx_getR (ci := 10) (k := 5) (r := (m + 3)) dX10_about_160 k_1018 (by decide) rfl (by assumption) (by assumption) (by omega) ?_
        refine mx_callVi (ci := 10) (As := [.ref (m + 3)]) (rest := []) dX10_about_163 (mt_layPairs G I3 m hs0 (vA (zX z)) ha3 (auP_rdF _ _) (wfP_vA hvp3.2.2.2) (m + 3) (zG z) (Or.inl rfl) t_now l_now hg3 (prM (zG z) none) (fun s hs => prM_9 hgw none s hs) q3) km_X10_layPairs rfl k_1206 k_1208 k_41 (by assumption) rfl rfl (Nat.le_of_ble_eq_true rfl) (by decide) (fun r7 I4 h8 => ?_)
        obtain ⟨e9, h27, h28, -, hS4⟩ := h8
        subst e9
        have hS5 : mS Ir I4 m := hS3.tr hS4
        refine mx_iload_n (i := 1) (hi := rfl) (hl := rfl) (hd := dX10_about_166) ?_
        refine mx_top (y := nI 5) hw ?_
        refine mx_iconstN 5 dX10_about_167 (by decide) ?_
        refine mx_cmpN_ne 178 dX10_about_168 (by decide) (by omega) (by omega) (fun c168 => ?_) (fun c168 => ?_)
        · skip
          exact absurd rfl c168
        · skip
          
          refine mx_aload_n (i := 0) (hi := rfl) (hl := rfl) (hd := dX10_about_171) ?_
          refine mx_getV (ci := 10) (k := 27) (nI ((lpO (zG z) (vA (zX z)) (prM (zG z) none) (gP (zG z))).1)) dX10_about_172 k_1040 (by decide) rfl (by assumption) h27 ?_
          refine mx_goto (tgt := 182) dX10_about_175 (by decide) ?_
          exact mx_iret dX10_about_182 rfl rfl (⟨⟨(hS5.2 0 (by omega)).trans hr0, mt_fr hrf hS5.fr, fun _ => ⟨by rw [hk]; unfold am_about; rw [if_pos rfl], hW1.S hS5⟩, fun z9 => absurd hm0 z9⟩, rfl⟩)
      · refine mx_top (y := nI 6) hw ?_
        refine mx_tabIn (tgt := 127) dX10_about_45 (by decide) (by decide) rfl (by decide) ?_
        have L131 : ∀ (fq : Nat) (s n : Nat), gN (zG z) - s < fq → (s ≤ gN (zG z)) → (n = gSum (gC (zG z)) s) → mx_V mX10_about mx_S0 5 0 0 131 [some (.ref m), some (.int w), some (.int (nI n)), some (.int (nI s))] [] G I3 (fun rv Gz Iz => (fun rv I1 => I1 m 0 = nI (fl_about w - 1) ∧ mx_fr I I1 m (m + 23) ∧ ((fl_about w - 1) = 0 → rv = some (.int (am_about z w.toInt.toNat)) ∧ mW G I1 m (z)) ∧ (¬ (fl_about w - 1) = 0 → (∃ w9, rv = some (.int w9)) ∧ mW G I1 m z)) rv Iz ∧ Gz = G) (fun _ _ _ => False) := by
          intro fq
          induction fq with
          | zero => intro s n hfu; exact absurd hfu (Nat.not_lt_zero _)
          | succ fq ih =>
            intro s n hfu hs9 hx
            refine mx_iload_n (i := 3) (hi := rfl) (hl := rfl) (hd := dX10_about_131) ?_
            refine mx_aload_n (i := 0) (hi := rfl) (hl := rfl) (hd := dX10_about_132) ?_
            refine mx_getR (ci := 10) (k := 5) (r := (m + 3)) dX10_about_133 k_1018 (by decide) rfl (by assumption) (by assumption) (by omega) ?_
            refine mx_iconstN 1 dX10_about_136 (by decide) ?_
            refine mx_ialdV 1 (nI (gN (zG z))) dX10_about_137 (by assumption) ⟨rfl, by omega, by omega⟩ hvp3.1.2.2.1 ?_
            refine mx_cmpN_ge 156 dX10_about_138 (by decide) (by omega) (by omega) (fun c138 => ?_) (fun c138 => ?_)
            · skip
              refine mx_iload_n (i := 2) (hi := rfl) (hl := rfl) (hd := dX10_about_156) ?_
              exact mx_iret dX10_about_157 rfl rfl (⟨⟨(hS3.2 0 (by omega)).trans hr0, mt_fr hrf hS3.fr, fun _ => ⟨by rw [hk]; unfold am_about; rw [if_neg (by decide), if_neg (by decide), an_about_6]; rw [hx, show s = gN (zG z) by omega], hW1.S hS3⟩, fun z9 => absurd hm0 z9⟩, rfl⟩)
            · skip
              refine mx_iload_n (i := 2) (hi := rfl) (hl := rfl) (hd := dX10_about_141) ?_
              refine mx_aload_n (i := 0) (hi := rfl) (hl := rfl) (hd := dX10_about_142) ?_
              refine mx_getR (ci := 10) (k := 23) (r := (m + 16)) dX10_about_143 k_1036 (by decide) rfl (by assumption) (by assumption) (by omega) ?_
              refine mx_iload_n (i := 3) (hi := rfl) (hl := rfl) (hd := dX10_about_146) ?_
              refine mx_ialdV s (nI (gC (zG z) s)) dX10_about_147 (by assumption) ⟨rfl, by omega, by omega⟩ ((q3 _ (by omega)).trans (congrArg nI (congrFun (prM_0 (zG z)) _))) ?_
              refine mx_iaddN dX10_about_148 ?_
              refine mx_istoreE_n (i := 2) (ls' := [some (.ref m), some (.int w), some (.int (nI (n + (gC (zG z) s)))), some (.int (nI s))]) (hi := rfl) (hd := dX10_about_149) (hn := by decide) (hok := rfl) (hls := rfl) ?_
              refine mx_iincE (i := 3) (ls' := [some (.ref m), some (.int w), some (.int (nI (n + (gC (zG z) s)))), some (.int (nI (s + 1)))]) 1 dX10_about_150 rfl (by decide) (by decide) rfl rfl ?_
              refine mx_goto (tgt := 131) dX10_about_153 (by decide) ?_
              exact ih (s + 1) _ (by omega) (by omega) (by rw [hx]; rfl)
        refine mx_iconstN 0 dX10_about_127 (by decide) ?_
        refine mx_istoreE_n (i := 2) (ls' := [some (.ref m), some (.int w), some (.int (nI 0)), none]) (hi := rfl) (hd := dX10_about_128) (hn := by decide) (hok := rfl) (hls := rfl) ?_
        refine mx_iconstN 0 dX10_about_129 (by decide) ?_
        refine mx_istoreE_n (i := 3) (ls' := [some (.ref m), some (.int w), some (.int (nI 0)), some (.int (nI 0))]) (hi := rfl) (hd := dX10_about_130) (hn := by decide) (hok := rfl) (hls := rfl) ?_
        exact L131 _ 0 0 (Nat.lt_succ_self _) (Nat.zero_le _) rfl
      · refine mx_top (y := nI 7) hw ?_
        refine mx_tabOut (tgt := 158) dX10_about_45 (by decide) (by decide) ?_
        refine mx_aload_n (i := 0) (hi := rfl) (hl := rfl) (hd := dX10_about_158) ?_
        refine mx_aload_n (i := 0) (hi := rfl) (hl := rfl) (hd := dX10_about_159) ?_
        refine mx_getR (ci := 10) (k := 5) (r := (m + 3)) dX10_about_160 k_1018 (by decide) rfl (by assumption) (by assumption) (by omega) ?_
        refine mx_callVi (ci := 10) (As := [.ref (m + 3)]) (rest := []) dX10_about_163 (mt_layPairs G I3 m hs0 (vA (zX z)) ha3 (auP_rdF _ _) (wfP_vA hvp3.2.2.2) (m + 3) (zG z) (Or.inl rfl) t_now l_now hg3 (prM (zG z) none) (fun s hs => prM_9 hgw none s hs) q3) km_X10_layPairs rfl k_1206 k_1208 k_41 (by assumption) rfl rfl (Nat.le_of_ble_eq_true rfl) (by decide) (fun r9 I4 h10 => ?_)
        obtain ⟨e9, h27, h28, -, hS4⟩ := h10
        subst e9
        have hS5 : mS Ir I4 m := hS3.tr hS4
        refine mx_iload_n (i := 1) (hi := rfl) (hl := rfl) (hd := dX10_about_166) ?_
        refine mx_top (y := nI 7) hw ?_
        refine mx_iconstN 5 dX10_about_167 (by decide) ?_
        refine mx_cmpN_ne 178 dX10_about_168 (by decide) (by omega) (by omega) (fun c168 => ?_) (fun c168 => ?_)
        · skip
          
          refine mx_aload_n (i := 0) (hi := rfl) (hl := rfl) (hd := dX10_about_178) ?_
          refine mx_getV (ci := 10) (k := 28) (oI (lpO (zG z) (vA (zX z)) (prM (zG z) none) (gP (zG z))).2 : Int32) dX10_about_179 k_1041 (by decide) rfl (by assumption) h28 ?_
          exact mx_iret dX10_about_182 rfl rfl (⟨⟨(hS5.2 0 (by omega)).trans hr0, mt_fr hrf hS5.fr, fun _ => ⟨by rw [hk]; unfold am_about; rw [if_neg (by decide), if_pos rfl], hW1.S hS5⟩, fun z9 => absurd hm0 z9⟩, rfl⟩)
        · skip
          exact absurd c168 (by decide)
    · skip
      refine mx_iconstN 0 dX10_about_24 (by decide) ?_
      exact mx_iret dX10_about_25 rfl rfl (⟨⟨hr0, hrf, fun z9 => absurd z9 (by omega), fun _ => ⟨⟨_, rfl⟩, hW1⟩⟩, rfl⟩)
  refine mx_aload_n (i := 0) (hi := rfl) (hl := rfl) (hd := dX10_about_0) ?_
  refine mx_iload_n (i := 1) (hi := rfl) (hl := rfl) (hd := dX10_about_1) ?_
  refine mx_i2l (hv := rfl) (hd := dX10_about_2) ?_
  refine mx_lconst (v := 0) (by decide) dX10_about_3 ?_
  refine mx_ldc2 (v := (7)) k_1197 dX10_about_4 ?_
  refine mx_callSp (As := [.long w.toInt64, .long (0 : Int64), .long (7)]) (rest := [.ref m]) dX10_about_7 (mt_in G I (w.toInt64) (0 : Int64) (7 : Int64)) km_X10_in rfl k_1119 k_1120 rfl rfl (Nat.le_of_ble_eq_true rfl) (by decide) ?_
  refine mx_top (y := mx_b (decide (0 ≤ w.toInt ∧ w.toInt ≤ 7))) (congrArg mx_b (decide_eq_decide.mpr ((in_l (x := 0) (y := 7) rfl rfl).trans (by omega)))) ?_
  refine mx_ifB_eq 17 dX10_about_10 (by decide) (fun c10 => ?_) (fun c10 => ?_)
  · skip
    refine mx_iconstN 1 dX10_about_17 (by decide) ?_
    refine mx_top (y := nI (fl_about w - 1)) (congrArg nI (by unfold fl_about; (repeat' split) <;> first | omega | simp_all)) ?_
    exact J18 ()
  · skip
    refine mx_iconstN 0 dX10_about_13 (by decide) ?_
    refine mx_goto (tgt := 18) dX10_about_14 (by decide) ?_
    refine mx_top (y := nI (fl_about w - 1)) (congrArg nI (by unfold fl_about; (repeat' split) <;> first | omega | simp_all)) ?_
    exact J18 ()

theorem fl_person_0 {z : Zs} {p w : Int32} (h : fl_person z p w = 0) : (0 ≤ p.toInt ∧ p.toInt < (gP (zG z) : Int)) ∧ (0 ≤ w.toInt ∧ w.toInt ≤ 3) := by
  unfold fl_person at h
  split at h
  · cases h
  · next c =>
    split at h
    · cases h
    · next c2 => exact ⟨Classical.not_not.mp c, Classical.not_not.mp c2⟩
theorem le3 {x : Int} (h : 0 ≤ x ∧ x ≤ 3) : x.toNat ≤ 3 := by omega

set_option maxHeartbeats 4000000 in
set_option maxRecDepth 100000 in
theorem mt_person (G : mx_G) (I : mx_I) (m : Nat) (z : Zs) (hW : mW G I m z) (p w : Int32) : mx_CTi yX10_person mX10_person 6 [.ref m, .int p, .int w] G I (fun rv I1 => I1 m 0 = nI (fl_person z p w) ∧ mx_fr I I1 m (m + 23) ∧ ((fl_person z p w) = 0 → rv = some (.int (nI (am_person z p.toInt.toNat w.toInt.toNat))) ∧ mW G I1 m (z)) ∧ (¬ (fl_person z p w) = 0 → (∃ w9, rv = some (.int w9)) ∧ mW G I1 m z)) := by
  refine mx_start (k := 2) (by decide) rfl rfl (fun h => nomatch h) (Nat.le_of_ble_eq_true rfl) ?_
  show mx_V mX10_person mx_S0 6 0 0 0 [some (.ref m), some (.int p), some (.int w), none, none] [] G I (fun rv Gz Iz => (fun rv I1 => I1 m 0 = nI (fl_person z p w) ∧ mx_fr I I1 m (m + 23) ∧ ((fl_person z p w) = 0 → rv = some (.int (nI (am_person z p.toInt.toNat w.toInt.toNat))) ∧ mW G I1 m (z)) ∧ (¬ (fl_person z p w) = 0 → (∃ w9, rv = some (.int w9)) ∧ mW G I1 m z)) rv Iz ∧ Gz = G) (fun _ _ _ => False)
  have hs0 : oMD G m := hW.1
  have hs1 := hs0
  have hW9 := hW
  obtain ⟨tgm, -, -, ⟨r_now, t_now, l_now⟩, -⟩ := hs1
  obtain ⟨-, hsz, ⟨hn110, h2, htx, htc⟩, ⟨hvp, hN24⟩, ⟨hc14, h8, hdi⟩, hke⟩ := hW9
  have hN24 : gN (zG z) ≤ 24 := hN24
  have hgw : wfG (zG z) := hvp.1.1
  have hP8 : gP (zG z) ≤ 8 := hgw.1
  have hgb : ∀ s, s < gN (zG z) → gF (zG z) s < 8 ∧ gK (zG z) s < 4 ∧ gT (zG z) s < 8 ∧ 1 ≤ gC (zG z) s ∧ gC (zG z) s ≤ 9 := hgw.2.2
  have hn40 := hvp.2.2.2.1
  have J33 : ∀ (_ : Unit), mx_V mX10_person mx_S0 6 0 0 33 [some (.ref m), some (.int p), some (.int w), none, none] [.int (nI (fl_person z p w)), .ref m] G I (fun rv Gz Iz => (fun rv I1 => I1 m 0 = nI (fl_person z p w) ∧ mx_fr I I1 m (m + 23) ∧ ((fl_person z p w) = 0 → rv = some (.int (nI (am_person z p.toInt.toNat w.toInt.toNat))) ∧ mW G I1 m (z)) ∧ (¬ (fl_person z p w) = 0 → (∃ w9, rv = some (.int w9)) ∧ mW G I1 m z)) rv Iz ∧ Gz = G) (fun _ _ _ => False) := by
    intro _ 
    refine mx_callVi (ci := 10) (As := [.int (nI (fl_person z p w))]) (rest := []) dX10_person_33 (mt_refused G I m hs0 (fl_person z p w) (by unfold fl_person; (repeat' split) <;> omega)) km_X10_refused rfl k_1122 k_1124 k_29 (by assumption) rfl rfl (Nat.le_of_ble_eq_true rfl) (by decide) (fun r1 Ir h2 => ?_)
    obtain ⟨e9, er⟩ := h2
    subst e9
    have hr0 : Ir m 0 = nI (fl_person z p w) := by rw [er, mx_u_at, if_pos ⟨rfl, rfl⟩]
    have hrf : mx_fr I Ir m (m + 23) := by rw [er]; exact (mx_fr.rf _ _ _).u (by omega)
    have hW1 : mW G Ir m z := hW.k (fun b k q => by rw [er, mx_u_at, if_neg (by omega)])
    clear er
    refine mx_ifB_eq 41 dX10_person_36 (by decide) (fun c36 => ?_) (fun c36 => ?_)
    · skip
      have hm0 : fl_person z p w = 0 := by omega
      obtain ⟨k1, k2⟩ := fl_person_0 hm0
      clear hsz h2 htx htc hvp hdi hke h8
      have hs0 : oMD G m := hW1.1
      have hs1 := hs0
      have hW9 := hW1
      obtain ⟨tgm, -, -, ⟨r_now, t_now, l_now⟩, -, -, -, -, -, -, -, -, -, -, -, -, -, ⟨r_far, t_far, l_far⟩, -⟩ := hs1
      obtain ⟨-, hsz, ⟨hn110, h2, htx, htc⟩, ⟨hvp, hN24⟩, ⟨hc14, h8, hdi⟩, hke⟩ := hW9
      have hN24 : gN (zG z) ≤ 24 := hN24
      have hgw : wfG (zG z) := hvp.1.1
      have hP8 : gP (zG z) ≤ 8 := hgw.1
      have hgb : ∀ s, s < gN (zG z) → gF (zG z) s < 8 ∧ gK (zG z) s < 4 ∧ gT (zG z) s < 8 ∧ 1 ≤ gC (zG z) s ∧ gC (zG z) s ≤ 9 := hgw.2.2
      have hn40 := hvp.2.2.2.1
      have hgv : gaF (Ir (m + 3)) (zG z) := hvp.1
      have hpne : p = nI p.toInt.toNat := (mx_nn (k1.1)).symm
      have hpnb : p.toInt.toNat < gP (zG z) := tn_lt k1
      have hpn31 : p.toInt.toNat < 2 ^ 31 := tn31 _
      generalize p.toInt.toNat = pn at hpne hpnb hpn31 ⊢
      subst hpne
      have hpn8 : pn < 8 := by omega
      have hwne : w = nI w.toInt.toNat := (mx_nn (k2.1)).symm
      have hwnb : w.toInt.toNat ≤ 3 := le3 k2
      have hwn31 : w.toInt.toNat < 2 ^ 31 := tn31 _
      generalize w.toInt.toNat = wn at hwne hwnb hwn31 ⊢
      subst hwne
      rcases (show wn = 0 ∨ wn = 1 ∨ wn = 2 ∨ wn = 3 by omega) with rfl | rfl | rfl | rfl
      · skip
        refine mx_iconstN 0 dX10_person_41 (by decide) ?_
        refine mx_istoreE_n (i := 3) (ls' := [some (.ref m), some (.int (nI pn)), some (.int (nI 0)), some (.int (nI 0)), none]) (hi := rfl) (hd := dX10_person_42) (hn := by decide) (hok := rfl) (hls := rfl) ?_
        refine mx_iload_n (i := 2) (hi := rfl) (hl := rfl) (hd := dX10_person_43) ?_
        refine mx_iconstN 2 dX10_person_44 (by decide) ?_
        refine mx_cmpN_ge 102 dX10_person_45 (by decide) (by omega) (by omega) (fun c45 => ?_) (fun c45 => ?_)
        · skip
          exact absurd c45 (by decide)
        · skip
          
          have L51 : ∀ (fq : Nat) (s n : Nat), gN (zG z) - s < fq → (s ≤ gN (zG z)) → (n = gCnt (gF (zG z)) pn s) → mx_V mX10_person mx_S0 6 0 0 51 [some (.ref m), some (.int (nI pn)), some (.int (nI 0)), some (.int (nI n)), some (.int (nI s))] [] G Ir (fun rv Gz Iz => (fun rv I1 => I1 m 0 = nI (fl_person z (nI pn) (nI 0)) ∧ mx_fr I I1 m (m + 23) ∧ ((fl_person z (nI pn) (nI 0)) = 0 → rv = some (.int (nI (am_person z pn 0))) ∧ mW G I1 m (z)) ∧ (¬ (fl_person z (nI pn) (nI 0)) = 0 → (∃ w9, rv = some (.int w9)) ∧ mW G I1 m z)) rv Iz ∧ Gz = G) (fun _ _ _ => False) := by
            intro fq
            induction fq with
            | zero => intro s n hfu; exact absurd hfu (Nat.not_lt_zero _)
            | succ fq ih =>
              intro s n hfu hs9 hx
              refine mx_iload (i := 4) (hl := rfl) (hd := dX10_person_51) ?_
              refine mx_aload_n (i := 0) (hi := rfl) (hl := rfl) (hd := dX10_person_53) ?_
              refine mx_getR (ci := 10) (k := 5) (r := (m + 3)) dX10_person_54 k_1018 (by decide) rfl (by assumption) (by assumption) (by omega) ?_
              refine mx_iconstN 1 dX10_person_57 (by decide) ?_
              refine mx_ialdV 1 (nI (gN (zG z))) dX10_person_58 (by assumption) ⟨rfl, by omega, by omega⟩ hgv.2.2.1 ?_
              refine mx_cmpN_ge 100 dX10_person_59 (by decide) (by omega) (by omega) (fun c59 => ?_) (fun c59 => ?_)
              · skip
                refine mx_iload_n (i := 3) (hi := rfl) (hl := rfl) (hd := dX10_person_100) ?_
                exact mx_iret dX10_person_101 rfl rfl (⟨⟨hr0, hrf, fun _ => ⟨congrArg (fun x => some (Value.int (nI x))) (show n = am_person z pn 0 by unfold am_person; rw [if_neg (by decide), if_neg (by decide), an_person_0, hx, show s = gN (zG z) by omega]), hW1⟩, fun z9 => absurd hm0 z9⟩, rfl⟩)
              · skip
                refine mx_iload_n (i := 3) (hi := rfl) (hl := rfl) (hd := dX10_person_62) ?_
                refine mx_aload_n (i := 0) (hi := rfl) (hl := rfl) (hd := dX10_person_63) ?_
                refine mx_getR (ci := 10) (k := 5) (r := (m + 3)) dX10_person_64 k_1018 (by decide) rfl (by assumption) (by assumption) (by omega) ?_
                refine mx_iload (i := 4) (hl := rfl) (hd := dX10_person_67) ?_
                refine mx_callSp (As := [.int (nI s)]) (rest := [.ref (m + 3), .int (nI n)]) dX10_person_69 (mt_at G Ir s) km_X10_at rfl k_1180 k_1181 rfl rfl (Nat.le_of_ble_eq_true rfl) (by decide) ?_
                refine mx_iload_n (i := 2) (hi := rfl) (hl := rfl) (hd := dX10_person_72) ?_
                refine mx_if0_ne 80 dX10_person_73 (by decide) ?_
                refine mx_iconstN 0 dX10_person_76 (by decide) ?_
                refine mx_goto (tgt := 81) dX10_person_77 (by decide) ?_
                refine mx_iaddN dX10_person_81 ?_
                refine mx_ialdV (3 + 4 * s) (nI (gF (zG z) s)) dX10_person_82 (by assumption) ⟨rfl, by rw [l_now]; omega, by rw [l_now]; decide⟩ (hgv.2.2.2 s (by omega)).1 ?_
                refine mx_iload_n (i := 1) (hi := rfl) (hl := rfl) (hd := dX10_person_83) ?_
                refine mx_cmpN_ne 91 dX10_person_84 (by decide) (by have := hgv.1.2.2 s (by omega); omega) (by omega) (fun c84 => ?_) (fun c84 => ?_)
                · skip
                  refine mx_iconstN 0 dX10_person_91 (by decide) ?_
                  refine mx_iaddN dX10_person_92 ?_
                  refine mx_istoreE_n (i := 3) (ls' := [some (.ref m), some (.int (nI pn)), some (.int (nI 0)), some (.int (nI (n + 0))), some (.int (nI s))]) (hi := rfl) (hd := dX10_person_93) (hn := by decide) (hok := rfl) (hls := rfl) ?_
                  refine mx_iincE (i := 4) (ls' := [some (.ref m), some (.int (nI pn)), some (.int (nI 0)), some (.int (nI (n + 0))), some (.int (nI (s + 1)))]) 1 dX10_person_94 rfl (by decide) (by decide) rfl rfl ?_
                  refine mx_goto (tgt := 51) dX10_person_97 (by decide) ?_
                  exact ih (s + 1) _ (by omega) (by omega) (by rw [hx, gCnt, if_neg c84])
                · skip
                  refine mx_iconstN 1 dX10_person_87 (by decide) ?_
                  refine mx_goto (tgt := 92) dX10_person_88 (by decide) ?_
                  refine mx_iaddN dX10_person_92 ?_
                  refine mx_istoreE_n (i := 3) (ls' := [some (.ref m), some (.int (nI pn)), some (.int (nI 0)), some (.int (nI (n + 1))), some (.int (nI s))]) (hi := rfl) (hd := dX10_person_93) (hn := by decide) (hok := rfl) (hls := rfl) ?_
                  refine mx_iincE (i := 4) (ls' := [some (.ref m), some (.int (nI pn)), some (.int (nI 0)), some (.int (nI (n + 1))), some (.int (nI (s + 1)))]) 1 dX10_person_94 rfl (by decide) (by decide) rfl rfl ?_
                  refine mx_goto (tgt := 51) dX10_person_97 (by decide) ?_
                  exact ih (s + 1) _ (by omega) (by omega) (by rw [hx, gCnt, if_pos c84])
          refine mx_iconstN 0 dX10_person_48 (by decide) ?_
          refine mx_istoreE (i := 4) (ls' := [some (.ref m), some (.int (nI pn)), some (.int (nI 0)), some (.int (nI 0)), some (.int (nI 0))]) (hd := dX10_person_49) (hn := by decide) (hok := rfl) (hls := rfl) ?_
          exact L51 _ 0 0 (Nat.lt_succ_self _) (Nat.zero_le _) rfl
      · skip
        refine mx_iconstN 0 dX10_person_41 (by decide) ?_
        refine mx_istoreE_n (i := 3) (ls' := [some (.ref m), some (.int (nI pn)), some (.int (nI 1)), some (.int (nI 0)), none]) (hi := rfl) (hd := dX10_person_42) (hn := by decide) (hok := rfl) (hls := rfl) ?_
        refine mx_iload_n (i := 2) (hi := rfl) (hl := rfl) (hd := dX10_person_43) ?_
        refine mx_iconstN 2 dX10_person_44 (by decide) ?_
        refine mx_cmpN_ge 102 dX10_person_45 (by decide) (by omega) (by omega) (fun c45 => ?_) (fun c45 => ?_)
        · skip
          exact absurd c45 (by decide)
        · skip
          
          have L51 : ∀ (fq : Nat) (s n : Nat), gN (zG z) - s < fq → (s ≤ gN (zG z)) → (n = gCnt (gT (zG z)) pn s) → mx_V mX10_person mx_S0 6 0 0 51 [some (.ref m), some (.int (nI pn)), some (.int (nI 1)), some (.int (nI n)), some (.int (nI s))] [] G Ir (fun rv Gz Iz => (fun rv I1 => I1 m 0 = nI (fl_person z (nI pn) (nI 1)) ∧ mx_fr I I1 m (m + 23) ∧ ((fl_person z (nI pn) (nI 1)) = 0 → rv = some (.int (nI (am_person z pn 1))) ∧ mW G I1 m (z)) ∧ (¬ (fl_person z (nI pn) (nI 1)) = 0 → (∃ w9, rv = some (.int w9)) ∧ mW G I1 m z)) rv Iz ∧ Gz = G) (fun _ _ _ => False) := by
            intro fq
            induction fq with
            | zero => intro s n hfu; exact absurd hfu (Nat.not_lt_zero _)
            | succ fq ih =>
              intro s n hfu hs9 hx
              refine mx_iload (i := 4) (hl := rfl) (hd := dX10_person_51) ?_
              refine mx_aload_n (i := 0) (hi := rfl) (hl := rfl) (hd := dX10_person_53) ?_
              refine mx_getR (ci := 10) (k := 5) (r := (m + 3)) dX10_person_54 k_1018 (by decide) rfl (by assumption) (by assumption) (by omega) ?_
              refine mx_iconstN 1 dX10_person_57 (by decide) ?_
              refine mx_ialdV 1 (nI (gN (zG z))) dX10_person_58 (by assumption) ⟨rfl, by omega, by omega⟩ hgv.2.2.1 ?_
              refine mx_cmpN_ge 100 dX10_person_59 (by decide) (by omega) (by omega) (fun c59 => ?_) (fun c59 => ?_)
              · skip
                refine mx_iload_n (i := 3) (hi := rfl) (hl := rfl) (hd := dX10_person_100) ?_
                exact mx_iret dX10_person_101 rfl rfl (⟨⟨hr0, hrf, fun _ => ⟨congrArg (fun x => some (Value.int (nI x))) (show n = am_person z pn 1 by unfold am_person; rw [if_neg (by decide), if_neg (by decide), an_person_1, hx, show s = gN (zG z) by omega]), hW1⟩, fun z9 => absurd hm0 z9⟩, rfl⟩)
              · skip
                refine mx_iload_n (i := 3) (hi := rfl) (hl := rfl) (hd := dX10_person_62) ?_
                refine mx_aload_n (i := 0) (hi := rfl) (hl := rfl) (hd := dX10_person_63) ?_
                refine mx_getR (ci := 10) (k := 5) (r := (m + 3)) dX10_person_64 k_1018 (by decide) rfl (by assumption) (by assumption) (by omega) ?_
                refine mx_iload (i := 4) (hl := rfl) (hd := dX10_person_67) ?_
                refine mx_callSp (As := [.int (nI s)]) (rest := [.ref (m + 3), .int (nI n)]) dX10_person_69 (mt_at G Ir s) km_X10_at rfl k_1180 k_1181 rfl rfl (Nat.le_of_ble_eq_true rfl) (by decide) ?_
                refine mx_iload_n (i := 2) (hi := rfl) (hl := rfl) (hd := dX10_person_72) ?_
                refine mx_if1_ne 80 dX10_person_73 (by decide) ?_
                refine mx_iconstN 2 dX10_person_80 (by decide) ?_
                refine mx_iaddN dX10_person_81 ?_
                refine mx_ialdV (3 + 4 * s + 2) (nI (gT (zG z) s)) dX10_person_82 (by assumption) ⟨rfl, by rw [l_now]; omega, by rw [l_now]; decide⟩ (hgv.2.2.2 s (by omega)).2.2.1 ?_
                refine mx_iload_n (i := 1) (hi := rfl) (hl := rfl) (hd := dX10_person_83) ?_
                refine mx_cmpN_ne 91 dX10_person_84 (by decide) (by have := hgv.1.2.2 s (by omega); omega) (by omega) (fun c84 => ?_) (fun c84 => ?_)
                · skip
                  refine mx_iconstN 0 dX10_person_91 (by decide) ?_
                  refine mx_iaddN dX10_person_92 ?_
                  refine mx_istoreE_n (i := 3) (ls' := [some (.ref m), some (.int (nI pn)), some (.int (nI 1)), some (.int (nI (n + 0))), some (.int (nI s))]) (hi := rfl) (hd := dX10_person_93) (hn := by decide) (hok := rfl) (hls := rfl) ?_
                  refine mx_iincE (i := 4) (ls' := [some (.ref m), some (.int (nI pn)), some (.int (nI 1)), some (.int (nI (n + 0))), some (.int (nI (s + 1)))]) 1 dX10_person_94 rfl (by decide) (by decide) rfl rfl ?_
                  refine mx_goto (tgt := 51) dX10_person_97 (by decide) ?_
                  exact ih (s + 1) _ (by omega) (by omega) (by rw [hx, gCnt, if_neg c84])
                · skip
                  refine mx_iconstN 1 dX10_person_87 (by decide) ?_
                  refine mx_goto (tgt := 92) dX10_person_88 (by decide) ?_
                  refine mx_iaddN dX10_person_92 ?_
                  refine mx_istoreE_n (i := 3) (ls' := [some (.ref m), some (.int (nI pn)), some (.int (nI 1)), some (.int (nI (n + 1))), some (.int (nI s))]) (hi := rfl) (hd := dX10_person_93) (hn := by decide) (hok := rfl) (hls := rfl) ?_
                  refine mx_iincE (i := 4) (ls' := [some (.ref m), some (.int (nI pn)), some (.int (nI 1)), some (.int (nI (n + 1))), some (.int (nI (s + 1)))]) 1 dX10_person_94 rfl (by decide) (by decide) rfl rfl ?_
                  refine mx_goto (tgt := 51) dX10_person_97 (by decide) ?_
                  exact ih (s + 1) _ (by omega) (by omega) (by rw [hx, gCnt, if_pos c84])
          refine mx_iconstN 0 dX10_person_48 (by decide) ?_
          refine mx_istoreE (i := 4) (ls' := [some (.ref m), some (.int (nI pn)), some (.int (nI 1)), some (.int (nI 0)), some (.int (nI 0))]) (hd := dX10_person_49) (hn := by decide) (hok := rfl) (hls := rfl) ?_
          exact L51 _ 0 0 (Nat.lt_succ_self _) (Nat.zero_le _) rfl
      · skip
        refine mx_iconstN 0 dX10_person_41 (by decide) ?_
        refine mx_istoreE_n (i := 3) (ls' := [some (.ref m), some (.int (nI pn)), some (.int (nI 2)), some (.int (nI 0)), none]) (hi := rfl) (hd := dX10_person_42) (hn := by decide) (hok := rfl) (hls := rfl) ?_
        refine mx_iload_n (i := 2) (hi := rfl) (hl := rfl) (hd := dX10_person_43) ?_
        refine mx_iconstN 2 dX10_person_44 (by decide) ?_
        refine mx_cmpN_ge 102 dX10_person_45 (by decide) (by omega) (by omega) (fun c45 => ?_) (fun c45 => ?_)
        · skip
          
          refine mx_iload_n (i := 2) (hi := rfl) (hl := rfl) (hd := dX10_person_102) ?_
          refine mx_iconstN 2 dX10_person_103 (by decide) ?_
          refine mx_cmpN_ne 117 dX10_person_104 (by decide) (by omega) (by omega) (fun c104 => ?_) (fun c104 => ?_)
          · skip
            exact absurd rfl c104
          · skip
            
            refine mx_aload_n (i := 0) (hi := rfl) (hl := rfl) (hd := dX10_person_107) ?_
            refine mx_aload_n (i := 0) (hi := rfl) (hl := rfl) (hd := dX10_person_108) ?_
            refine mx_getR (ci := 10) (k := 5) (r := (m + 3)) dX10_person_109 k_1018 (by decide) rfl (by assumption) (by assumption) (by omega) ?_
            refine mx_iload_n (i := 1) (hi := rfl) (hl := rfl) (hd := dX10_person_112) ?_
            refine mx_callVi (ci := 10) (As := [.ref (m + 3), .int (nI pn)]) (rest := []) dX10_person_113 (mt_reached G Ir m hs0 (m + 3) (zX z) (Or.inl rfl) t_now l_now hvp pn hpn8) km_X10_reached rfl k_1246 k_1248 k_47 (by assumption) rfl rfl (Nat.le_of_ble_eq_true rfl) (by decide) (fun r3 I2 h4 => ?_)
            obtain ⟨e9, hS2⟩ := h4
            subst e9
            exact mx_iret dX10_person_116 rfl rfl (⟨⟨(hS2.2 0 (by omega)).trans hr0, mt_fr hrf hS2.fr, fun _ => ⟨congrArg (fun x => some (Value.int (nI x))) (show _ = am_person z pn 2 by unfold am_person; rw [if_pos rfl]), hW1.S hS2⟩, fun z9 => absurd hm0 z9⟩, rfl⟩)
        · skip
          exact absurd c45 (by decide)
      · skip
        refine mx_iconstN 0 dX10_person_41 (by decide) ?_
        refine mx_istoreE_n (i := 3) (ls' := [some (.ref m), some (.int (nI pn)), some (.int (nI 3)), some (.int (nI 0)), none]) (hi := rfl) (hd := dX10_person_42) (hn := by decide) (hok := rfl) (hls := rfl) ?_
        refine mx_iload_n (i := 2) (hi := rfl) (hl := rfl) (hd := dX10_person_43) ?_
        refine mx_iconstN 2 dX10_person_44 (by decide) ?_
        refine mx_cmpN_ge 102 dX10_person_45 (by decide) (by omega) (by omega) (fun c45 => ?_) (fun c45 => ?_)
        · skip
          
          refine mx_iload_n (i := 2) (hi := rfl) (hl := rfl) (hd := dX10_person_102) ?_
          refine mx_iconstN 2 dX10_person_103 (by decide) ?_
          refine mx_cmpN_ne 117 dX10_person_104 (by decide) (by omega) (by omega) (fun c104 => ?_) (fun c104 => ?_)
          · skip
            
            refine mx_aload_n (i := 0) (hi := rfl) (hl := rfl) (hd := dX10_person_117) ?_
            refine mx_aload_n (i := 0) (hi := rfl) (hl := rfl) (hd := dX10_person_118) ?_
            refine mx_getR (ci := 10) (k := 5) (r := (m + 3)) dX10_person_119 k_1018 (by decide) rfl (by assumption) (by assumption) (by omega) ?_
            refine mx_callVi (ci := 10) (As := [.ref (m + 3)]) (rest := []) dX10_person_122 (mt_compileOf G Ir m hs0 (m + 3) (zX z) (Or.inl rfl) t_now l_now hvp) km_X10_compileOf rfl k_1198 k_1200 k_39 (by assumption) rfl rfl (Nat.le_of_ble_eq_true rfl) (by decide) (fun r5 I2 h6 => ?_)
            obtain ⟨e9, q1, q2⟩ := h6
            subst e9
            have hg2 : gaF (I2 (m + 3)) (zG z) := hvp.1.c (by omega) (fun k _ => by rw [q2.1 (m + 3) (by omega)])
            refine mx_aload_n (i := 0) (hi := rfl) (hl := rfl) (hd := dX10_person_125) ?_
            refine mx_aload_n (i := 0) (hi := rfl) (hl := rfl) (hd := dX10_person_126) ?_
            refine mx_getR (ci := 10) (k := 5) (r := (m + 3)) dX10_person_127 k_1018 (by decide) rfl (by assumption) (by assumption) (by omega) ?_
            refine mx_bipush (v := (-9)) (by decide) dX10_person_130 ?_
            refine mx_callVi (ci := 10) (As := [.ref (m + 3), .int (-9)]) (rest := []) dX10_person_132 (mt_layPrices G I2 m hs0 (m + 3) (zG z) t_now l_now hg2 (by omega) none (fun z hz => (nomatch hz))) km_X10_layPrices rfl k_1202 k_1204 k_40 (by assumption) rfl rfl (Nat.le_of_ble_eq_true rfl) (by decide) (fun r7 I3 h8 => ?_)
            obtain ⟨e9, q3, q4⟩ := h8
            subst e9
            have ha3 : auN I3 m (vA (zX z)) := q1.k (fun j _ _ => q4 _ _ (by omega)) (fun b k _ _ => q4 _ _ (by omega))
            have hg3 : gaF (I3 (m + 3)) (zG z) := hg2.c (by omega) (fun k _ => q4 _ _ (by omega))
            have hS3 : mS Ir I3 m := q2.S.tr (mS.of (fun b k hb => q4 b k (by omega)))
            have hW3 : mW G I3 m z := hW1.S hS3
            have hvp3 : vpF (I3 (m + 3)) (zX z) := hW3.2.2.2.1.1
            refine mx_aload_n (i := 0) (hi := rfl) (hl := rfl) (hd := dX10_person_135) ?_
            refine mx_aload_n (i := 0) (hi := rfl) (hl := rfl) (hd := dX10_person_136) ?_
            refine mx_getR (ci := 10) (k := 5) (r := (m + 3)) dX10_person_137 k_1018 (by decide) rfl (by assumption) (by assumption) (by omega) ?_
            refine mx_iload_n (i := 1) (hi := rfl) (hl := rfl) (hd := dX10_person_140) ?_
            refine mx_callVi (ci := 10) (As := [.ref (m + 3), .int (nI pn)]) (rest := []) dX10_person_141 (mt_layFar G I3 m hs0 (vA (zX z)) ha3 (auP_rdF _ _) (wfP_vA hvp3.2.2.2) (m + 3) (zG z) (Or.inl rfl) t_now l_now hg3 (prM (zG z) none) (fun s hs => prM_9 hgw none s hs) q3 pn hpn8) km_X10_layFar rfl k_1210 k_1212 k_42 (by assumption) rfl rfl (Nat.le_of_ble_eq_true rfl) (by decide) (fun r9 I4 h10 => ?_)
            obtain ⟨e9, ⟨fr, z1, z2⟩, z3⟩ := h10
            subst e9
            have hS5 : mS Ir I4 m := hS3.tr z3.S
            have hg4 : gaF (I4 (m + 3)) (zG z) := hg3.c (by omega) (fun k _ => z3.2.2 _ _ (by omega) (by omega) (by omega))
            have heb : ∀ o, o < 8 → eb (bM z o pn) := fun o ho => bM_eb hvp3 ho pn
            have L147 : ∀ (fq : Nat) (o n : Nat), gP (zG z) - o < fq → (o ≤ gP (zG z)) → (n = tcM (zG z) (vA (zX z)) (prM (zG z) none) pn o) → mx_V mX10_person mx_S0 6 0 0 147 [some (.ref m), some (.int (nI pn)), some (.int (nI 3)), some (.int (nI n)), some (.int (nI o))] [] G I4 (fun rv Gz Iz => (fun rv I1 => I1 m 0 = nI (fl_person z (nI pn) (nI 3)) ∧ mx_fr I I1 m (m + 23) ∧ ((fl_person z (nI pn) (nI 3)) = 0 → rv = some (.int (nI (am_person z pn 3))) ∧ mW G I1 m (z)) ∧ (¬ (fl_person z (nI pn) (nI 3)) = 0 → (∃ w9, rv = some (.int w9)) ∧ mW G I1 m z)) rv Iz ∧ Gz = G) (fun _ _ _ => False) := by
              intro fq
              induction fq with
              | zero => intro o n hfu; exact absurd hfu (Nat.not_lt_zero _)
              | succ fq ih =>
                intro o n hfu ho9 hx
                refine mx_iload (i := 4) (hl := rfl) (hd := dX10_person_147) ?_
                refine mx_aload_n (i := 0) (hi := rfl) (hl := rfl) (hd := dX10_person_149) ?_
                refine mx_getR (ci := 10) (k := 5) (r := (m + 3)) dX10_person_150 k_1018 (by decide) rfl (by assumption) (by assumption) (by omega) ?_
                refine mx_iconstN 0 dX10_person_153 (by decide) ?_
                refine mx_ialdV 0 (nI (gP (zG z))) dX10_person_154 (by assumption) ⟨rfl, by omega, by omega⟩ hg4.2.1 ?_
                refine mx_cmpN_ge 190 dX10_person_155 (by decide) (by omega) (by omega) (fun c155 => ?_) (fun c155 => ?_)
                · skip
                  refine mx_iload_n (i := 3) (hi := rfl) (hl := rfl) (hd := dX10_person_190) ?_
                  exact mx_iret dX10_person_191 rfl rfl (⟨⟨(hS5.2 0 (by omega)).trans hr0, mt_fr hrf hS5.fr, fun _ => ⟨congrArg (fun x => some (Value.int (nI x))) (show n = am_person z pn 3 by unfold am_person; rw [if_neg (by decide), if_pos rfl, hx, show o = gP (zG z) by omega]), hW1.S hS5⟩, fun z9 => absurd hm0 z9⟩, rfl⟩)
                · skip
                  refine mx_iload_n (i := 3) (hi := rfl) (hl := rfl) (hd := dX10_person_158) ?_
                  refine mx_aload_n (i := 0) (hi := rfl) (hl := rfl) (hd := dX10_person_159) ?_
                  refine mx_getR (ci := 10) (k := 24) (r := (m + 17)) dX10_person_160 k_1037 (by decide) rfl (by assumption) (by assumption) (by omega) ?_
                  refine mx_bipushN 21 dX10_person_163 (by decide) ?_
                  refine mx_iload (i := 4) (hl := rfl) (hd := dX10_person_165) ?_
                  refine mx_imulN dX10_person_167 ?_
                  refine mx_ialdV (21 * o) (nI (enM (bM z o pn))) dX10_person_168 (by assumption) ⟨rfl, by omega, by omega⟩ ((z1 (21 * o) (by omega)).trans (congrArg nI (z2 o 0 (by omega) (by decide)))) ?_
                  refine mx_ldc (v := (100000000)) k_1222 dX10_person_169 ?_
                  refine mx_top (y := nI 100000000) (by decide) ?_
                  refine mx_cmpN_ge 181 dX10_person_171 (by decide) (en_31 (heb o (by omega))) (by decide) (fun c171 => ?_) (fun c171 => ?_)
                  · skip
                    refine mx_iconstN 0 dX10_person_181 (by decide) ?_
                    refine mx_iorN dX10_person_182 ?_
                    refine mx_istoreE_n (i := 3) (ls' := [some (.ref m), some (.int (nI pn)), some (.int (nI 3)), some (.int (nI (n ||| 0))), some (.int (nI o))]) (hi := rfl) (hd := dX10_person_183) (hn := by decide) (hok := rfl) (hls := rfl) ?_
                    refine mx_iincE (i := 4) (ls' := [some (.ref m), some (.int (nI pn)), some (.int (nI 3)), some (.int (nI (n ||| 0))), some (.int (nI (o + 1)))]) 1 dX10_person_184 rfl (by decide) (by decide) rfl rfl ?_
                    refine mx_goto (tgt := 147) dX10_person_187 (by decide) ?_
                    exact ih (o + 1) _ (by omega) (by omega) (by rw [hx, tcM, if_pos ((en_lt (heb o (by omega))).mp c171)])
                  · skip
                    refine mx_iconstN 1 dX10_person_174 (by decide) ?_
                    refine mx_iload (i := 4) (hl := rfl) (hd := dX10_person_175) ?_
                    refine mx_ishl1N dX10_person_177 (by omega) ?_
                    refine mx_goto (tgt := 182) dX10_person_178 (by decide) ?_
                    refine mx_iorN dX10_person_182 ?_
                    refine mx_istoreE_n (i := 3) (ls' := [some (.ref m), some (.int (nI pn)), some (.int (nI 3)), some (.int (nI (n ||| (2 ^ o)))), some (.int (nI o))]) (hi := rfl) (hd := dX10_person_183) (hn := by decide) (hok := rfl) (hls := rfl) ?_
                    refine mx_iincE (i := 4) (ls' := [some (.ref m), some (.int (nI pn)), some (.int (nI 3)), some (.int (nI (n ||| (2 ^ o)))), some (.int (nI (o + 1)))]) 1 dX10_person_184 rfl (by decide) (by decide) rfl rfl ?_
                    refine mx_goto (tgt := 147) dX10_person_187 (by decide) ?_
                    exact ih (o + 1) _ (by omega) (by omega) (by rw [hx, tcM, if_neg (fun q => c171 ((en_lt (heb o (by omega))).mpr q))])
            refine mx_iconstN 0 dX10_person_144 (by decide) ?_
            refine mx_istoreE (i := 4) (ls' := [some (.ref m), some (.int (nI pn)), some (.int (nI 3)), some (.int (nI 0)), some (.int (nI 0))]) (hd := dX10_person_145) (hn := by decide) (hok := rfl) (hls := rfl) ?_
            exact L147 _ 0 0 (Nat.lt_succ_self _) (Nat.zero_le _) rfl
          · skip
            exact absurd c104 (by decide)
        · skip
          exact absurd c45 (by decide)
    · skip
      refine mx_iconstN 0 dX10_person_39 (by decide) ?_
      exact mx_iret dX10_person_40 rfl rfl (⟨⟨hr0, hrf, fun z9 => absurd z9 (by omega), fun _ => ⟨⟨_, rfl⟩, hW1⟩⟩, rfl⟩)
  refine mx_aload_n (i := 0) (hi := rfl) (hl := rfl) (hd := dX10_person_0) ?_
  refine mx_aload_n (i := 0) (hi := rfl) (hl := rfl) (hd := dX10_person_1) ?_
  refine mx_getR (ci := 10) (k := 5) (r := (m + 3)) dX10_person_2 k_1018 (by decide) rfl (by assumption) (by assumption) (by omega) ?_
  refine mx_iload_n (i := 1) (hi := rfl) (hl := rfl) (hd := dX10_person_5) ?_
  refine mx_callSp (As := [.ref (m + 3), .int p]) (rest := [.ref m]) dX10_person_6 (mt_isPerson G I (m + 3) (zG z) t_now l_now hvp.1 p) km_X10_isPerson rfl k_1243 k_1244 rfl rfl (Nat.le_of_ble_eq_true rfl) (by decide) ?_
  refine mx_ifB_ne 16 dX10_person_9 (by decide) (fun c9 => ?_) (fun c9 => ?_)
  · skip
    refine mx_iload_n (i := 2) (hi := rfl) (hl := rfl) (hd := dX10_person_16) ?_
    refine mx_i2l (hv := rfl) (hd := dX10_person_17) ?_
    refine mx_lconst (v := 0) (by decide) dX10_person_18 ?_
    refine mx_ldc2 (v := (3)) k_1238 dX10_person_19 ?_
    refine mx_callSp (As := [.long w.toInt64, .long (0 : Int64), .long (3)]) (rest := [.ref m]) dX10_person_22 (mt_in G I (w.toInt64) (0 : Int64) (3 : Int64)) km_X10_in rfl k_1119 k_1120 rfl rfl (Nat.le_of_ble_eq_true rfl) (by decide) ?_
    refine mx_top (y := mx_b (decide (0 ≤ w.toInt ∧ w.toInt ≤ 3))) (congrArg mx_b (decide_eq_decide.mpr ((in_l (x := 0) (y := 3) rfl rfl).trans (by omega)))) ?_
    refine mx_ifB_eq 32 dX10_person_25 (by decide) (fun c25 => ?_) (fun c25 => ?_)
    · skip
      refine mx_iconstN 2 dX10_person_32 (by decide) ?_
      refine mx_top (y := nI (fl_person z p w)) (congrArg nI (by unfold fl_person; (repeat' split) <;> first | omega | simp_all)) ?_
      exact J33 ()
    · skip
      refine mx_iconstN 0 dX10_person_28 (by decide) ?_
      refine mx_goto (tgt := 33) dX10_person_29 (by decide) ?_
      refine mx_top (y := nI (fl_person z p w)) (congrArg nI (by unfold fl_person; (repeat' split) <;> first | omega | simp_all)) ?_
      exact J33 ()
  · skip
    refine mx_iconstN 1 dX10_person_12 (by decide) ?_
    refine mx_goto (tgt := 33) dX10_person_13 (by decide) ?_
    refine mx_top (y := nI (fl_person z p w)) (congrArg nI (by unfold fl_person; (repeat' split) <;> first | omega | simp_all)) ?_
    exact J33 ()

set_option maxHeartbeats 4000000 in
set_option maxRecDepth 100000 in
theorem mt_areNoPeople (G : mx_G) (I : mx_I) (m : Nat) (z : Zs) (hW : mW G I m z) (p q : Int32) : mx_CTi yX10_areNoPeople mX10_areNoPeople 3 [.ref m, .int p, .int q] G I (fun rv I1 => rv = some (.int (mx_b (decide (0 < fl_two z p q)))) ∧ I1 = mx_u I m 0 (nI (fl_two z p q))) := by
  refine mx_start (k := 0) (by decide) rfl rfl (fun h => nomatch h) (Nat.le_of_ble_eq_true rfl) ?_
  show mx_V mX10_areNoPeople mx_S0 3 0 0 0 [some (.ref m), some (.int p), some (.int q)] [] G I (fun rv Gz Iz => (fun rv I1 => rv = some (.int (mx_b (decide (0 < fl_two z p q)))) ∧ I1 = mx_u I m 0 (nI (fl_two z p q))) rv Iz ∧ Gz = G) (fun _ _ _ => False)
  have hs0 : oMD G m := hW.1
  have hs1 := hs0
  have hW9 := hW
  obtain ⟨tgm, -, -, ⟨r_now, t_now, l_now⟩, -⟩ := hs1
  obtain ⟨-, hsz, ⟨hn110, h2, htx, htc⟩, ⟨hvp, hN24⟩, ⟨hc14, h8, hdi⟩, hke⟩ := hW9
  have hN24 : gN (zG z) ≤ 24 := hN24
  have hgw : wfG (zG z) := hvp.1.1
  have hP8 : gP (zG z) ≤ 8 := hgw.1
  have hgb : ∀ s, s < gN (zG z) → gF (zG z) s < 8 ∧ gK (zG z) s < 4 ∧ gT (zG z) s < 8 ∧ 1 ≤ gC (zG z) s ∧ gC (zG z) s ≤ 9 := hgw.2.2
  have hn40 := hvp.2.2.2.1
  have J28 : ∀ (_ : Unit), mx_V mX10_areNoPeople mx_S0 3 0 0 28 [some (.ref m), some (.int p), some (.int q)] [.int (nI (fl_two z p q)), .ref m] G I (fun rv Gz Iz => (fun rv I1 => rv = some (.int (mx_b (decide (0 < fl_two z p q)))) ∧ I1 = mx_u I m 0 (nI (fl_two z p q))) rv Iz ∧ Gz = G) (fun _ _ _ => False) := by
    intro _ 
    refine mx_callVi (ci := 10) (As := [.int (nI (fl_two z p q))]) (rest := []) dX10_areNoPeople_28 (mt_refused G I m hs0 (fl_two z p q) (by unfold fl_two; (repeat' split) <;> omega)) km_X10_refused rfl k_1122 k_1124 k_29 (by assumption) rfl rfl (Nat.le_of_ble_eq_true rfl) (by decide) (fun r1 Ir h2 => ?_)
    obtain ⟨e9, er⟩ := h2
    subst e9
    exact mx_iret dX10_areNoPeople_31 rfl (mx_b_nz _) (⟨⟨rfl, er⟩, rfl⟩)
  refine mx_aload_n (i := 0) (hi := rfl) (hl := rfl) (hd := dX10_areNoPeople_0) ?_
  refine mx_aload_n (i := 0) (hi := rfl) (hl := rfl) (hd := dX10_areNoPeople_1) ?_
  refine mx_getR (ci := 10) (k := 5) (r := (m + 3)) dX10_areNoPeople_2 k_1018 (by decide) rfl (by assumption) (by assumption) (by omega) ?_
  refine mx_iload_n (i := 1) (hi := rfl) (hl := rfl) (hd := dX10_areNoPeople_5) ?_
  refine mx_callSp (As := [.ref (m + 3), .int p]) (rest := [.ref m]) dX10_areNoPeople_6 (mt_isPerson G I (m + 3) (zG z) t_now l_now hvp.1 p) km_X10_isPerson rfl k_1243 k_1244 rfl rfl (Nat.le_of_ble_eq_true rfl) (by decide) ?_
  refine mx_ifB_eq 27 dX10_areNoPeople_9 (by decide) (fun c9 => ?_) (fun c9 => ?_)
  · skip
    refine mx_iconstN 1 dX10_areNoPeople_27 (by decide) ?_
    refine mx_top (y := nI (fl_two z p q)) (congrArg nI (show 1 = fl_two z p q by unfold fl_two; rw [if_pos (by first | exact fun q9 => c9 q9.1 | exact fun q9 => c20 q9.2)])) ?_
    exact J28 ()
  · skip
    refine mx_aload_n (i := 0) (hi := rfl) (hl := rfl) (hd := dX10_areNoPeople_12) ?_
    refine mx_getR (ci := 10) (k := 5) (r := (m + 3)) dX10_areNoPeople_13 k_1018 (by decide) rfl (by assumption) (by assumption) (by omega) ?_
    refine mx_iload_n (i := 2) (hi := rfl) (hl := rfl) (hd := dX10_areNoPeople_16) ?_
    refine mx_callSp (As := [.ref (m + 3), .int q]) (rest := [.ref m]) dX10_areNoPeople_17 (mt_isPerson G I (m + 3) (zG z) t_now l_now hvp.1 q) km_X10_isPerson rfl k_1243 k_1244 rfl rfl (Nat.le_of_ble_eq_true rfl) (by decide) ?_
    refine mx_ifB_eq 27 dX10_areNoPeople_20 (by decide) (fun c20 => ?_) (fun c20 => ?_)
    · skip
      refine mx_iconstN 1 dX10_areNoPeople_27 (by decide) ?_
      refine mx_top (y := nI (fl_two z p q)) (congrArg nI (show 1 = fl_two z p q by unfold fl_two; rw [if_pos (by first | exact fun q9 => c9 q9.1 | exact fun q9 => c20 q9.2)])) ?_
      exact J28 ()
    · skip
      refine mx_iconstN 0 dX10_areNoPeople_23 (by decide) ?_
      refine mx_goto (tgt := 28) dX10_areNoPeople_24 (by decide) ?_
      refine mx_top (y := nI (fl_two z p q)) (congrArg nI (show 0 = fl_two z p q by unfold fl_two; rw [if_neg (fun q9 => q9 ⟨c9, c20⟩)])) ?_
      exact J28 ()

set_option maxHeartbeats 4000000 in
set_option maxRecDepth 100000 in
theorem mt_cost (G : mx_G) (I : mx_I) (m : Nat) (z : Zs) (hW : mW G I m z) (p q : Int32) : mx_CTi yX10_cost mX10_cost 6 [.ref m, .int p, .int q] G I (fun rv I1 => I1 m 0 = nI (fl_two z p q) ∧ mx_fr I I1 m (m + 23) ∧ ((fl_two z p q) = 0 → rv = some (.int (oI (am_cost z p.toInt.toNat q.toInt.toNat))) ∧ mW G I1 m (z)) ∧ (¬ (fl_two z p q) = 0 → (∃ w9, rv = some (.int w9)) ∧ mW G I1 m z)) := by
  refine mx_start (k := 1) (by decide) rfl rfl (fun h => nomatch h) (Nat.le_of_ble_eq_true rfl) ?_
  show mx_V mX10_cost mx_S0 6 0 0 0 [some (.ref m), some (.int p), some (.int q), none] [] G I (fun rv Gz Iz => (fun rv I1 => I1 m 0 = nI (fl_two z p q) ∧ mx_fr I I1 m (m + 23) ∧ ((fl_two z p q) = 0 → rv = some (.int (oI (am_cost z p.toInt.toNat q.toInt.toNat))) ∧ mW G I1 m (z)) ∧ (¬ (fl_two z p q) = 0 → (∃ w9, rv = some (.int w9)) ∧ mW G I1 m z)) rv Iz ∧ Gz = G) (fun _ _ _ => False)
  have hs0 : oMD G m := hW.1
  have hs1 := hs0
  have hW9 := hW
  obtain ⟨tgm, -, -, ⟨r_now, t_now, l_now⟩, -⟩ := hs1
  obtain ⟨-, hsz, ⟨hn110, h2, htx, htc⟩, ⟨hvp, hN24⟩, ⟨hc14, h8, hdi⟩, hke⟩ := hW9
  have hN24 : gN (zG z) ≤ 24 := hN24
  have hgw : wfG (zG z) := hvp.1.1
  have hP8 : gP (zG z) ≤ 8 := hgw.1
  have hgb : ∀ s, s < gN (zG z) → gF (zG z) s < 8 ∧ gK (zG z) s < 4 ∧ gT (zG z) s < 8 ∧ 1 ≤ gC (zG z) s ∧ gC (zG z) s ≤ 9 := hgw.2.2
  have hn40 := hvp.2.2.2.1
  refine mx_aload_n (i := 0) (hi := rfl) (hl := rfl) (hd := dX10_cost_0) ?_
  refine mx_iload_n (i := 1) (hi := rfl) (hl := rfl) (hd := dX10_cost_1) ?_
  refine mx_iload_n (i := 2) (hi := rfl) (hl := rfl) (hd := dX10_cost_2) ?_
  refine mx_callVi (ci := 10) (As := [.int p, .int q]) (rest := []) dX10_cost_3 (mt_areNoPeople G I m z hW p q) km_X10_areNoPeople rfl k_1318 k_1320 k_50 (by assumption) rfl rfl (Nat.le_of_ble_eq_true rfl) (by decide) (fun r1 Ir h2 => ?_)
  obtain ⟨e9, er⟩ := h2
  subst e9
  have hr0 : Ir m 0 = nI (fl_two z p q) := by rw [er, mx_u_at, if_pos ⟨rfl, rfl⟩]
  have hrf : mx_fr I Ir m (m + 23) := by rw [er]; exact (mx_fr.rf _ _ _).u (by omega)
  have hW1 : mW G Ir m z := hW.k (fun b k q => by rw [er, mx_u_at, if_neg (by omega)])
  clear er
  refine mx_ifB_eq 11 dX10_cost_6 (by decide) (fun c6 => ?_) (fun c6 => ?_)
  · skip
    have hm0 : fl_two z p q = 0 := by omega
    have k1 := fl_two_0 hm0
    clear hsz h2 htx htc hvp hdi hke h8
    have hs0 : oMD G m := hW1.1
    have hs1 := hs0
    have hW9 := hW1
    obtain ⟨tgm, -, -, ⟨r_now, t_now, l_now⟩, -⟩ := hs1
    obtain ⟨-, hsz, ⟨hn110, h2, htx, htc⟩, ⟨hvp, hN24⟩, ⟨hc14, h8, hdi⟩, hke⟩ := hW9
    have hN24 : gN (zG z) ≤ 24 := hN24
    have hgw : wfG (zG z) := hvp.1.1
    have hP8 : gP (zG z) ≤ 8 := hgw.1
    have hgb : ∀ s, s < gN (zG z) → gF (zG z) s < 8 ∧ gK (zG z) s < 4 ∧ gT (zG z) s < 8 ∧ 1 ≤ gC (zG z) s ∧ gC (zG z) s ≤ 9 := hgw.2.2
    have hn40 := hvp.2.2.2.1
    have hpne : p = nI p.toInt.toNat := (mx_nn (k1.1.1)).symm
    have hpnb : p.toInt.toNat < gP (zG z) := tn_lt k1.1
    have hpn31 : p.toInt.toNat < 2 ^ 31 := tn31 _
    generalize p.toInt.toNat = pn at hpne hpnb hpn31 ⊢
    subst hpne
    have hqne : q = nI q.toInt.toNat := (mx_nn (k1.2.1)).symm
    have hqnb : q.toInt.toNat < gP (zG z) := tn_lt k1.2
    have hqn31 : q.toInt.toNat < 2 ^ 31 := tn31 _
    generalize q.toInt.toNat = qn at hqne hqnb hqn31 ⊢
    subst hqne
    have hpn8 : pn < 8 := by omega
    have hqn8 : qn < 8 := by omega
    refine mx_aload_n (i := 0) (hi := rfl) (hl := rfl) (hd := dX10_cost_11) ?_
    refine mx_iload_n (i := 1) (hi := rfl) (hl := rfl) (hd := dX10_cost_12) ?_
    refine mx_iload_n (i := 2) (hi := rfl) (hl := rfl) (hd := dX10_cost_13) ?_
    refine mx_callVi (ci := 10) (As := [.int (nI pn), .int (nI qn)]) (rest := []) dX10_cost_14 (mt_bestNow G Ir m hs0 (m + 3) (zX z) (Or.inl rfl) t_now l_now hvp pn qn hpn8 hqn8 rfl) km_X10_bestNow rfl k_1322 k_1324 k_51 (by assumption) rfl rfl (Nat.le_of_ble_eq_true rfl) (by decide) (fun r3 I2 h4 => ?_)
    obtain ⟨e9, hfw, hS2⟩ := h4
    subst e9
    have heb := bM_eb hvp hpn8 qn
    refine mx_istoreE_n (i := 3) (ls' := [some (.ref m), some (.int (nI pn)), some (.int (nI qn)), some (.int (nI (enM (bM z pn qn))))]) (hi := rfl) (hd := dX10_cost_17) (hn := by decide) (hok := rfl) (hls := rfl) ?_
    refine mx_iload_n (i := 3) (hi := rfl) (hl := rfl) (hd := dX10_cost_18) ?_
    refine mx_ldc (v := (100000000)) k_1222 dX10_cost_19 ?_
    refine mx_top (y := nI 100000000) (by decide) ?_
    refine mx_cmpN_ge 32 dX10_cost_21 (by decide) (en_31 heb) (by decide) (fun c21 => ?_) (fun c21 => ?_)
    · skip
      refine mx_bipush (v := (-9)) (by decide) dX10_cost_32 ?_
      exact mx_iret dX10_cost_34 rfl rfl (⟨⟨(hS2.2 0 (by omega)).trans hr0, mt_fr hrf hS2.fr, fun _ => ⟨congrArg (fun x => some (Value.int x)) (am_n heb c21), hW1.S hS2⟩, fun z9 => absurd hm0 z9⟩, rfl⟩)
    · skip
      refine mx_iload_n (i := 3) (hi := rfl) (hl := rfl) (hd := dX10_cost_24) ?_
      refine mx_sipushN 1000 dX10_cost_25 (by decide) ?_
      refine mx_idivN dX10_cost_28 (en_31 heb) (by decide) ?_
      refine mx_goto (tgt := 34) dX10_cost_29 (by decide) ?_
      exact mx_iret dX10_cost_34 rfl rfl (⟨⟨(hS2.2 0 (by omega)).trans hr0, mt_fr hrf hS2.fr, fun _ => ⟨congrArg (fun x => some (Value.int x)) (am_c heb c21), hW1.S hS2⟩, fun z9 => absurd hm0 z9⟩, rfl⟩)
  · skip
    refine mx_iconstN 0 dX10_cost_9 (by decide) ?_
    exact mx_iret dX10_cost_10 rfl rfl (⟨⟨hr0, hrf, fun z9 => absurd z9 (by omega), fun _ => ⟨⟨_, rfl⟩, hW1⟩⟩, rfl⟩)

set_option maxHeartbeats 4000000 in
set_option maxRecDepth 100000 in
theorem mt_length (G : mx_G) (I : mx_I) (m : Nat) (z : Zs) (hW : mW G I m z) (p q : Int32) : mx_CTi yX10_length mX10_length 6 [.ref m, .int p, .int q] G I (fun rv I1 => I1 m 0 = nI (fl_two z p q) ∧ mx_fr I I1 m (m + 23) ∧ ((fl_two z p q) = 0 → rv = some (.int (oI (am_length z p.toInt.toNat q.toInt.toNat))) ∧ mW G I1 m (z)) ∧ (¬ (fl_two z p q) = 0 → (∃ w9, rv = some (.int w9)) ∧ mW G I1 m z)) := by
  refine mx_start (k := 1) (by decide) rfl rfl (fun h => nomatch h) (Nat.le_of_ble_eq_true rfl) ?_
  show mx_V mX10_length mx_S0 6 0 0 0 [some (.ref m), some (.int p), some (.int q), none] [] G I (fun rv Gz Iz => (fun rv I1 => I1 m 0 = nI (fl_two z p q) ∧ mx_fr I I1 m (m + 23) ∧ ((fl_two z p q) = 0 → rv = some (.int (oI (am_length z p.toInt.toNat q.toInt.toNat))) ∧ mW G I1 m (z)) ∧ (¬ (fl_two z p q) = 0 → (∃ w9, rv = some (.int w9)) ∧ mW G I1 m z)) rv Iz ∧ Gz = G) (fun _ _ _ => False)
  have hs0 : oMD G m := hW.1
  have hs1 := hs0
  have hW9 := hW
  obtain ⟨tgm, -, -, ⟨r_now, t_now, l_now⟩, -⟩ := hs1
  obtain ⟨-, hsz, ⟨hn110, h2, htx, htc⟩, ⟨hvp, hN24⟩, ⟨hc14, h8, hdi⟩, hke⟩ := hW9
  have hN24 : gN (zG z) ≤ 24 := hN24
  have hgw : wfG (zG z) := hvp.1.1
  have hP8 : gP (zG z) ≤ 8 := hgw.1
  have hgb : ∀ s, s < gN (zG z) → gF (zG z) s < 8 ∧ gK (zG z) s < 4 ∧ gT (zG z) s < 8 ∧ 1 ≤ gC (zG z) s ∧ gC (zG z) s ≤ 9 := hgw.2.2
  have hn40 := hvp.2.2.2.1
  refine mx_aload_n (i := 0) (hi := rfl) (hl := rfl) (hd := dX10_length_0) ?_
  refine mx_iload_n (i := 1) (hi := rfl) (hl := rfl) (hd := dX10_length_1) ?_
  refine mx_iload_n (i := 2) (hi := rfl) (hl := rfl) (hd := dX10_length_2) ?_
  refine mx_callVi (ci := 10) (As := [.int p, .int q]) (rest := []) dX10_length_3 (mt_areNoPeople G I m z hW p q) km_X10_areNoPeople rfl k_1318 k_1320 k_50 (by assumption) rfl rfl (Nat.le_of_ble_eq_true rfl) (by decide) (fun r1 Ir h2 => ?_)
  obtain ⟨e9, er⟩ := h2
  subst e9
  have hr0 : Ir m 0 = nI (fl_two z p q) := by rw [er, mx_u_at, if_pos ⟨rfl, rfl⟩]
  have hrf : mx_fr I Ir m (m + 23) := by rw [er]; exact (mx_fr.rf _ _ _).u (by omega)
  have hW1 : mW G Ir m z := hW.k (fun b k q => by rw [er, mx_u_at, if_neg (by omega)])
  clear er
  refine mx_ifB_eq 11 dX10_length_6 (by decide) (fun c6 => ?_) (fun c6 => ?_)
  · skip
    have hm0 : fl_two z p q = 0 := by omega
    have k1 := fl_two_0 hm0
    clear hsz h2 htx htc hvp hdi hke h8
    have hs0 : oMD G m := hW1.1
    have hs1 := hs0
    have hW9 := hW1
    obtain ⟨tgm, -, -, ⟨r_now, t_now, l_now⟩, -⟩ := hs1
    obtain ⟨-, hsz, ⟨hn110, h2, htx, htc⟩, ⟨hvp, hN24⟩, ⟨hc14, h8, hdi⟩, hke⟩ := hW9
    have hN24 : gN (zG z) ≤ 24 := hN24
    have hgw : wfG (zG z) := hvp.1.1
    have hP8 : gP (zG z) ≤ 8 := hgw.1
    have hgb : ∀ s, s < gN (zG z) → gF (zG z) s < 8 ∧ gK (zG z) s < 4 ∧ gT (zG z) s < 8 ∧ 1 ≤ gC (zG z) s ∧ gC (zG z) s ≤ 9 := hgw.2.2
    have hn40 := hvp.2.2.2.1
    have hpne : p = nI p.toInt.toNat := (mx_nn (k1.1.1)).symm
    have hpnb : p.toInt.toNat < gP (zG z) := tn_lt k1.1
    have hpn31 : p.toInt.toNat < 2 ^ 31 := tn31 _
    generalize p.toInt.toNat = pn at hpne hpnb hpn31 ⊢
    subst hpne
    have hqne : q = nI q.toInt.toNat := (mx_nn (k1.2.1)).symm
    have hqnb : q.toInt.toNat < gP (zG z) := tn_lt k1.2
    have hqn31 : q.toInt.toNat < 2 ^ 31 := tn31 _
    generalize q.toInt.toNat = qn at hqne hqnb hqn31 ⊢
    subst hqne
    have hpn8 : pn < 8 := by omega
    have hqn8 : qn < 8 := by omega
    refine mx_aload_n (i := 0) (hi := rfl) (hl := rfl) (hd := dX10_length_11) ?_
    refine mx_iload_n (i := 1) (hi := rfl) (hl := rfl) (hd := dX10_length_12) ?_
    refine mx_iload_n (i := 2) (hi := rfl) (hl := rfl) (hd := dX10_length_13) ?_
    refine mx_callVi (ci := 10) (As := [.int (nI pn), .int (nI qn)]) (rest := []) dX10_length_14 (mt_bestNow G Ir m hs0 (m + 3) (zX z) (Or.inl rfl) t_now l_now hvp pn qn hpn8 hqn8 rfl) km_X10_bestNow rfl k_1322 k_1324 k_51 (by assumption) rfl rfl (Nat.le_of_ble_eq_true rfl) (by decide) (fun r3 I2 h4 => ?_)
    obtain ⟨e9, hfw, hS2⟩ := h4
    subst e9
    have heb := bM_eb hvp hpn8 qn
    refine mx_istoreE_n (i := 3) (ls' := [some (.ref m), some (.int (nI pn)), some (.int (nI qn)), some (.int (nI (enM (bM z pn qn))))]) (hi := rfl) (hd := dX10_length_17) (hn := by decide) (hok := rfl) (hls := rfl) ?_
    refine mx_iload_n (i := 3) (hi := rfl) (hl := rfl) (hd := dX10_length_18) ?_
    refine mx_ldc (v := (100000000)) k_1222 dX10_length_19 ?_
    refine mx_top (y := nI 100000000) (by decide) ?_
    refine mx_cmpN_ge 32 dX10_length_21 (by decide) (en_31 heb) (by decide) (fun c21 => ?_) (fun c21 => ?_)
    · skip
      refine mx_bipush (v := (-9)) (by decide) dX10_length_32 ?_
      exact mx_iret dX10_length_34 rfl rfl (⟨⟨(hS2.2 0 (by omega)).trans hr0, mt_fr hrf hS2.fr, fun _ => ⟨congrArg (fun x => some (Value.int x)) (am_n heb c21), hW1.S hS2⟩, fun z9 => absurd hm0 z9⟩, rfl⟩)
    · skip
      refine mx_iload_n (i := 3) (hi := rfl) (hl := rfl) (hd := dX10_length_24) ?_
      refine mx_sipushN 1000 dX10_length_25 (by decide) ?_
      refine mx_iremN dX10_length_28 (en_31 heb) (by decide) ?_
      refine mx_goto (tgt := 34) dX10_length_29 (by decide) ?_
      exact mx_iret dX10_length_34 rfl rfl (⟨⟨(hS2.2 0 (by omega)).trans hr0, mt_fr hrf hS2.fr, fun _ => ⟨congrArg (fun x => some (Value.int x)) (am_l heb c21), hW1.S hS2⟩, fun z9 => absurd hm0 z9⟩, rfl⟩)
  · skip
    refine mx_iconstN 0 dX10_length_9 (by decide) ?_
    exact mx_iret dX10_length_10 rfl rfl (⟨⟨hr0, hrf, fun z9 => absurd z9 (by omega), fun _ => ⟨⟨_, rfl⟩, hW1⟩⟩, rfl⟩)

set_option maxHeartbeats 4000000 in
set_option maxRecDepth 100000 in
theorem mt_needed (G : mx_G) (I : mx_I) (m : Nat) (z : Zs) (hW : mW G I m z) (p q : Int32) : mx_CTi yX10_needed mX10_needed 7 [.ref m, .int p, .int q] G I (fun rv I1 => I1 m 0 = nI (fl_two z p q) ∧ mx_fr I I1 m (m + 23) ∧ ((fl_two z p q) = 0 → rv = some (.int (nI (am_needed z p.toInt.toNat q.toInt.toNat))) ∧ mW G I1 m (z)) ∧ (¬ (fl_two z p q) = 0 → (∃ w9, rv = some (.int w9)) ∧ mW G I1 m z)) := by
  refine mx_start (k := 0) (by decide) rfl rfl (fun h => nomatch h) (Nat.le_of_ble_eq_true rfl) ?_
  show mx_V mX10_needed mx_S0 7 0 0 0 [some (.ref m), some (.int p), some (.int q)] [] G I (fun rv Gz Iz => (fun rv I1 => I1 m 0 = nI (fl_two z p q) ∧ mx_fr I I1 m (m + 23) ∧ ((fl_two z p q) = 0 → rv = some (.int (nI (am_needed z p.toInt.toNat q.toInt.toNat))) ∧ mW G I1 m (z)) ∧ (¬ (fl_two z p q) = 0 → (∃ w9, rv = some (.int w9)) ∧ mW G I1 m z)) rv Iz ∧ Gz = G) (fun _ _ _ => False)
  have hs0 : oMD G m := hW.1
  have hs1 := hs0
  have hW9 := hW
  obtain ⟨tgm, -, -, ⟨r_now, t_now, l_now⟩, -⟩ := hs1
  obtain ⟨-, hsz, ⟨hn110, h2, htx, htc⟩, ⟨hvp, hN24⟩, ⟨hc14, h8, hdi⟩, hke⟩ := hW9
  have hN24 : gN (zG z) ≤ 24 := hN24
  have hgw : wfG (zG z) := hvp.1.1
  have hP8 : gP (zG z) ≤ 8 := hgw.1
  have hgb : ∀ s, s < gN (zG z) → gF (zG z) s < 8 ∧ gK (zG z) s < 4 ∧ gT (zG z) s < 8 ∧ 1 ≤ gC (zG z) s ∧ gC (zG z) s ≤ 9 := hgw.2.2
  have hn40 := hvp.2.2.2.1
  refine mx_aload_n (i := 0) (hi := rfl) (hl := rfl) (hd := dX10_needed_0) ?_
  refine mx_iload_n (i := 1) (hi := rfl) (hl := rfl) (hd := dX10_needed_1) ?_
  refine mx_iload_n (i := 2) (hi := rfl) (hl := rfl) (hd := dX10_needed_2) ?_
  refine mx_callVi (ci := 10) (As := [.int p, .int q]) (rest := []) dX10_needed_3 (mt_areNoPeople G I m z hW p q) km_X10_areNoPeople rfl k_1318 k_1320 k_50 (by assumption) rfl rfl (Nat.le_of_ble_eq_true rfl) (by decide) (fun r1 Ir h2 => ?_)
  obtain ⟨e9, er⟩ := h2
  subst e9
  have hr0 : Ir m 0 = nI (fl_two z p q) := by rw [er, mx_u_at, if_pos ⟨rfl, rfl⟩]
  have hrf : mx_fr I Ir m (m + 23) := by rw [er]; exact (mx_fr.rf _ _ _).u (by omega)
  have hW1 : mW G Ir m z := hW.k (fun b k q => by rw [er, mx_u_at, if_neg (by omega)])
  clear er
  refine mx_ifB_eq 11 dX10_needed_6 (by decide) (fun c6 => ?_) (fun c6 => ?_)
  · skip
    have hm0 : fl_two z p q = 0 := by omega
    have k1 := fl_two_0 hm0
    clear hsz h2 htx htc hvp hdi hke h8
    have hs0 : oMD G m := hW1.1
    have hs1 := hs0
    have hW9 := hW1
    obtain ⟨tgm, -, -, ⟨r_now, t_now, l_now⟩, -⟩ := hs1
    obtain ⟨-, hsz, ⟨hn110, h2, htx, htc⟩, ⟨hvp, hN24⟩, ⟨hc14, h8, hdi⟩, hke⟩ := hW9
    have hN24 : gN (zG z) ≤ 24 := hN24
    have hgw : wfG (zG z) := hvp.1.1
    have hP8 : gP (zG z) ≤ 8 := hgw.1
    have hgb : ∀ s, s < gN (zG z) → gF (zG z) s < 8 ∧ gK (zG z) s < 4 ∧ gT (zG z) s < 8 ∧ 1 ≤ gC (zG z) s ∧ gC (zG z) s ≤ 9 := hgw.2.2
    have hn40 := hvp.2.2.2.1
    have hpne : p = nI p.toInt.toNat := (mx_nn (k1.1.1)).symm
    have hpnb : p.toInt.toNat < gP (zG z) := tn_lt k1.1
    have hpn31 : p.toInt.toNat < 2 ^ 31 := tn31 _
    generalize p.toInt.toNat = pn at hpne hpnb hpn31 ⊢
    subst hpne
    have hqne : q = nI q.toInt.toNat := (mx_nn (k1.2.1)).symm
    have hqnb : q.toInt.toNat < gP (zG z) := tn_lt k1.2
    have hqn31 : q.toInt.toNat < 2 ^ 31 := tn31 _
    generalize q.toInt.toNat = qn at hqne hqnb hqn31 ⊢
    subst hqne
    have hpn8 : pn < 8 := by omega
    have hqn8 : qn < 8 := by omega
    refine mx_aload_n (i := 0) (hi := rfl) (hl := rfl) (hd := dX10_needed_11) ?_
    refine mx_aload_n (i := 0) (hi := rfl) (hl := rfl) (hd := dX10_needed_12) ?_
    refine mx_getR (ci := 10) (k := 5) (r := (m + 3)) dX10_needed_13 k_1018 (by decide) rfl (by assumption) (by assumption) (by omega) ?_
    refine mx_iload_n (i := 1) (hi := rfl) (hl := rfl) (hd := dX10_needed_16) ?_
    refine mx_iload_n (i := 2) (hi := rfl) (hl := rfl) (hd := dX10_needed_17) ?_
    refine mx_callVi (ci := 10) (As := [.ref (m + 3), .int (nI pn), .int (nI qn)]) (rest := []) dX10_needed_18 (mt_neededIn G Ir m hs0 (m + 3) (zX z) (Or.inl rfl) t_now l_now hvp pn qn hpn8 hqn8) km_X10_neededIn rfl k_1351 k_1353 k_54 (by assumption) rfl rfl (Nat.le_of_ble_eq_true rfl) (by decide) (fun r3 I2 h4 => ?_)
    obtain ⟨e9, hS2⟩ := h4
    subst e9
    exact mx_iret dX10_needed_21 rfl rfl (⟨⟨(hS2.2 0 (by omega)).trans hr0, mt_fr hrf hS2.fr, fun _ => ⟨rfl, hW1.S hS2⟩, fun z9 => absurd hm0 z9⟩, rfl⟩)
  · skip
    refine mx_iconstN 0 dX10_needed_9 (by decide) ?_
    exact mx_iret dX10_needed_10 rfl rfl (⟨⟨hr0, hrf, fun z9 => absurd z9 (by omega), fun _ => ⟨⟨_, rfl⟩, hW1⟩⟩, rfl⟩)
