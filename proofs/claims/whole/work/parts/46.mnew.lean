/-! THE REFERENCE: ones, bestNew -/
def onM (x : Nat) : Nat → Nat
  | 0 => 0
  | k + 1 => onM x k + (if x.testBit k = true then 1 else 0)
abbrev mayB (z : Zs) (v : Nat) : Prop := (((v / 100 < gP (zG z) ∧ v % 10 < gP (zG z)) ∧ ¬ v / 100 = v % 10) ∧ v / 10 % 10 < 4) ∧ gIx (zG z) (v / 100) (v / 10 % 10) (v % 10) = none
abbrev nwG (z : Zs) (v : Nat) : Gr := gPut (zG z) (v / 100) (v / 10 % 10) (v % 10) 1
noncomputable abbrev bmX (z : Zs) (p q v : Nat) : Option (Nat × Nat) := bR (nwG z v) (vA (zX z)) (prM (nwG z v) none) (tgA (vA (zX z)) q) p 0
noncomputable def bnM (z : Zs) (p q : Nat) : Nat → Option Nat × Nat
  | 0 => (none, 100000)
  | v + 1 => if mayB z v then (if enM (bmX z p q v) / 1000 < (bnM z p q v).2 then (some v, enM (bmX z p q v) / 1000) else bnM z p q v) else bnM z p q v
noncomputable def am_bestNew (z : Zs) (p q : Nat) : Option Nat := (bnM z p q 800).1
theorem mt_isPersonN (G : mx_G) (I : mx_I) (g : Nat) (v : Gr) (ht : mx_tg G g = 1) (hl : mx_ln G g = 143) (hg : gaF (I g) v) (p : Nat) (hp : p < 2 ^ 31) : mx_CTp yX10_isPerson mX10_isPerson 2 [.ref g, .int (nI p)] G I (some (.int (mx_b (decide (p < gP v))))) :=
  (mt_isPerson G I g v ht hl hg (nI p)).eq rfl (by rw [nI_toInt hp]; exact congrArg (fun z => some (Value.int (mx_b z))) (decide_eq_decide.mpr (by omega)))
theorem mt_isStepN (G : mx_G) (I : mx_I) (g : Nat) (v : Gr) (ht : mx_tg G g = 1) (hl : mx_ln G g = 143) (hg : gaF (I g) v) (p : Nat) (hp : p < 2 ^ 31) : mx_CTp yX10_isStep mX10_isStep 2 [.ref g, .int (nI p)] G I (some (.int (mx_b (decide (p < gN v))))) :=
  (mt_isStep G I g v ht hl hg (nI p)).eq rfl (by rw [nI_toInt hp]; exact congrArg (fun z => some (Value.int (mx_b z))) (decide_eq_decide.mpr (by omega)))
/-- what stands in the trial between two tries -/
def trF (f : Nat → Int32) (x : Vl) : Prop := ∀ f', f' 1 = nI (gN x.1) → (∀ k, k ≠ 1 → f' k = f k) → vpF f' x
theorem trF.of {f : Nat → Int32} {x : Vl} (h : vpF f x) : trF f x := fun f' e1 e => by
  obtain ⟨⟨w, g0, g1, g2⟩, h2, h3, h4⟩ := h
  refine ⟨⟨w, (e 0 (by decide)).trans g0, e1, fun s hs => ?_⟩, (e 2 (by decide)).trans h2, fun i hi => (e _ (by omega)).trans (h3 i hi), h4⟩
  obtain ⟨a, b, c, d⟩ := g2 s hs
  exact ⟨(e _ (by omega)).trans a, (e _ (by omega)).trans b, (e _ (by omega)).trans c, (e _ (by omega)).trans d⟩
theorem trF.put {f f3 : Nat → Int32} {x : Vl} {p k q c : Nat} (h : vpF f x) (hg : gaF f3 (gPut x.1 p k q c)) (hx : gxF f f3) : trF f3 x := fun f' e1 e => by
  obtain ⟨⟨w, g0, g1, g2⟩, h2, h3, h4⟩ := h
  obtain ⟨w', g0', g1', g2'⟩ := hg
  refine ⟨⟨w, (e 0 (by decide)).trans g0', e1, fun s hs => ?_⟩, (e 2 (by decide)).trans ((hx 2 (Or.inl rfl)).trans h2), fun i hi => (e _ (by omega)).trans ((hx _ (by omega)).trans (h3 i hi)), h4⟩
  obtain ⟨a, b, c9, d⟩ := g2' s (by show s < gN x.1 + 1; omega)
  have ef : gF (gPut x.1 p k q c) s = gF x.1 s := if_neg (by omega)
  have ek : gK (gPut x.1 p k q c) s = gK x.1 s := if_neg (by omega)
  have et : gT (gPut x.1 p k q c) s = gT x.1 s := if_neg (by omega)
  have ec : gC (gPut x.1 p k q c) s = gC x.1 s := if_neg (by omega)
  rw [ef] at a; rw [ek] at b; rw [et] at c9; rw [ec] at d
  exact ⟨(e _ (by omega)).trans a, (e _ (by omega)).trans b, (e _ (by omega)).trans c9, (e _ (by omega)).trans d⟩
theorem vpF.put {f f3 : Nat → Int32} {x : Vl} {v' : Gr} (h : vpF f x) (hg : gaF f3 v') (hx : gxF f f3) : vpF f3 (v', x.2) := ⟨hg, (hx 2 (Or.inl rfl)).trans h.2.1, fun i hi => (hx _ (by omega)).trans (h.2.2.1 i hi), h.2.2.2⟩

set_option maxHeartbeats 4000000 in
set_option maxRecDepth 100000 in
theorem mt_ones (G : mx_G) (I : mx_I) (x : Nat) (hx31 : x < 2 ^ 31) : mx_CTp yX10_ones mX10_ones 1 [.int (nI x)] G I (some (.int (nI (onM x 24)))) := by
  refine mx_start (k := 2) (by decide) rfl rfl (fun h => nomatch h) (Nat.le_of_ble_eq_true rfl) ?_
  show mx_V mX10_ones mx_S0 1 0 0 0 [some (.int (nI x)), none, none] [] G I (fun rv Gz Iz => rv = some (.int (nI (onM x 24))) ∧ Gz = G ∧ Iz = I) (fun _ _ _ => False)
  have L4 : ∀ (fq : Nat) (k n : Nat), 24 - k < fq → (k ≤ 24) → (n = onM x k) → mx_V mX10_ones mx_S0 1 0 0 4 [some (.int (nI x)), some (.int (nI n)), some (.int (nI k))] [] G I (fun rv Gz Iz => rv = some (.int (nI (onM x 24))) ∧ Gz = G ∧ Iz = I) (fun _ _ _ => False) := by
    intro fq
    induction fq with
    | zero => intro k n hfu; exact absurd hfu (Nat.not_lt_zero _)
    | succ fq ih =>
      intro k n hfu hk hx
      refine mx_iload_n (i := 2) (hi := rfl) (hl := rfl) (hd := dX10_ones_4) ?_
      refine mx_bipushN 24 dX10_ones_5 (by decide) ?_
      refine mx_cmpN_ge 24 dX10_ones_7 (by decide) (by omega) (by omega) (fun c7 => ?_) (fun c7 => ?_)
      · skip
        refine mx_iload_n (i := 1) (hi := rfl) (hl := rfl) (hd := dX10_ones_24) ?_
        exact mx_iret dX10_ones_25 rfl rfl (⟨by rw [hx, show k = 24 by omega], rfl, rfl⟩)
      · skip
        refine mx_iload_n (i := 1) (hi := rfl) (hl := rfl) (hd := dX10_ones_10) ?_
        refine mx_iload_n (i := 0) (hi := rfl) (hl := rfl) (hd := dX10_ones_11) ?_
        refine mx_iload_n (i := 2) (hi := rfl) (hl := rfl) (hd := dX10_ones_12) ?_
        refine mx_ishrN dX10_ones_13 (by omega) (by omega) ?_
        refine mx_iconstN 1 dX10_ones_14 (by decide) ?_
        refine mx_iandN dX10_ones_15 ?_
        refine mx_top (mx_bit _ _) ?_
        refine mx_top (y := nI (if x.testBit k = true then 1 else 0)) ((by split; (next h => exact (mx_bT h).symm); (next h => exact (mx_bF h).symm))) ?_
        refine mx_iaddN dX10_ones_16 ?_
        refine mx_istoreE_n (i := 1) (ls' := [some (.int (nI x)), some (.int (nI (n + (if x.testBit k = true then 1 else 0)))), some (.int (nI k))]) (hi := rfl) (hd := dX10_ones_17) (hn := by decide) (hok := rfl) (hls := rfl) ?_
        refine mx_iincE (i := 2) (ls' := [some (.int (nI x)), some (.int (nI (n + (if x.testBit k = true then 1 else 0)))), some (.int (nI (k + 1)))]) 1 dX10_ones_18 rfl (by decide) (by decide) rfl rfl ?_
        refine mx_goto (tgt := 4) dX10_ones_21 (by decide) ?_
        exact ih (k + 1) _ (by omega) (by omega) (by rw [hx]; rfl)
  refine mx_iconstN 0 dX10_ones_0 (by decide) ?_
  refine mx_istoreE_n (i := 1) (ls' := [some (.int (nI x)), some (.int (nI 0)), none]) (hi := rfl) (hd := dX10_ones_1) (hn := by decide) (hok := rfl) (hls := rfl) ?_
  refine mx_iconstN 0 dX10_ones_2 (by decide) ?_
  refine mx_istoreE_n (i := 2) (ls' := [some (.int (nI x)), some (.int (nI 0)), some (.int (nI 0))]) (hi := rfl) (hd := dX10_ones_3) (hn := by decide) (hok := rfl) (hls := rfl) ?_
  exact L4 _ 0 0 (Nat.lt_succ_self _) (Nat.zero_le _) rfl

theorem bnM_le (z : Zs) (p q : Nat) : ∀ v, (bnM z p q v).2 ≤ 100000
  | 0 => Nat.le_refl _
  | v + 1 => by
    have := bnM_le z p q v
    show (if mayB z v then (if enM (bmX z p q v) / 1000 < (bnM z p q v).2 then (some v, enM (bmX z p q v) / 1000) else bnM z p q v) else bnM z p q v).2 ≤ 100000
    split
    · split
      · next h => exact Nat.le_trans (Nat.le_of_lt h) this
      · exact this
    · exact this
/-- all but the trial and the scratch stays -/
def sS (I I1 : mx_I) (m : Nat) : Prop := (∀ b, (b < m ∨ (m < b ∧ b < m + 8 ∧ b ≠ m + 4) ∨ m + 23 ≤ b) → I1 b = I b) ∧ ∀ j, (j < 11 ∨ (15 ≤ j ∧ j < 27)) → I1 m j = I m j
theorem mS.s {I I1 : mx_I} {m : Nat} (h : mS I I1 m) : sS I I1 m := ⟨fun b hb => h.1 b (by omega), h.2⟩
theorem sS.tr {I I1 I2 : mx_I} {m : Nat} (h : sS I I1 m) (k : sS I1 I2 m) : sS I I2 m := ⟨fun b q => (k.1 b q).trans (h.1 b q), fun j q => (k.2 j q).trans (h.2 j q)⟩
theorem sS.fr {I I1 : mx_I} {m : Nat} (h : sS I I1 m) : mx_fr I I1 m (m + 23) := fun b hb => h.1 b (by omega)
theorem mW.sS {G : mx_G} {I I1 : mx_I} {m : Nat} {z : Zs} (h : mW G I m z) (k : sS I I1 m) : mW G I1 m z := h.k (fun b j q => by
  by_cases e : b = m
  · rw [e]; exact k.2 j (by omega)
  · rw [k.1 b (by omega)])

set_option maxHeartbeats 4000000 in
set_option maxRecDepth 100000 in
theorem mt_bestNew (G : mx_G) (I : mx_I) (m : Nat) (z : Zs) (hW : mW G I m z) (p q : Int32) : mx_CTi yX10_bestNew mX10_bestNew 7 [.ref m, .int p, .int q] G I (fun rv I1 => I1 m 0 = nI (fl_two z p q) ∧ mx_fr I I1 m (m + 23) ∧ ((fl_two z p q) = 0 → rv = some (.int (oI (am_bestNew z p.toInt.toNat q.toInt.toNat))) ∧ mW G I1 m (z)) ∧ (¬ (fl_two z p q) = 0 → (∃ w9, rv = some (.int w9)) ∧ mW G I1 m z)) := by
  refine mx_start (k := 9) (by decide) rfl rfl (fun h => nomatch h) (Nat.le_of_ble_eq_true rfl) ?_
  show mx_V mX10_bestNew mx_S0 7 0 0 0 [some (.ref m), some (.int p), some (.int q), none, none, none, none, none, none, none, none, none] [] G I (fun rv Gz Iz => (fun rv I1 => I1 m 0 = nI (fl_two z p q) ∧ mx_fr I I1 m (m + 23) ∧ ((fl_two z p q) = 0 → rv = some (.int (oI (am_bestNew z p.toInt.toNat q.toInt.toNat))) ∧ mW G I1 m (z)) ∧ (¬ (fl_two z p q) = 0 → (∃ w9, rv = some (.int w9)) ∧ mW G I1 m z)) rv Iz ∧ Gz = G) (fun _ _ _ => False)
  have hs0 : oMD G m := hW.1
  have hs1 := hs0
  have hW9 := hW
  obtain ⟨tgm, -, -, ⟨r_now, t_now, l_now⟩, -⟩ := hs1
  obtain ⟨-, hsz, ⟨hn110, h2, htx, htc⟩, ⟨hvp, hN24⟩, ⟨hc14, h8, hdi⟩, hke⟩ := hW9
  have hN24 : gN (zG z) ≤ 24 := hN24
  have hgw : wfG (zG z) := hvp.1.1
  have hP8 : gP (zG z) ≤ 8 := hgw.1
  have hgb : ∀ s, s < gN (zG z) → gF (zG z) s < 8 ∧ gK (zG z) s < 4 ∧ gT (zG z) s < 8 ∧ 1 ≤ gC (zG z) s ∧ gC (zG z) s ≤ 9 := hgw.2.2
  have hn40 := hvp.2.2.2.1
  refine mx_aload_n (i := 0) (hi := rfl) (hl := rfl) (hd := dX10_bestNew_0) ?_
  refine mx_iload_n (i := 1) (hi := rfl) (hl := rfl) (hd := dX10_bestNew_1) ?_
  refine mx_iload_n (i := 2) (hi := rfl) (hl := rfl) (hd := dX10_bestNew_2) ?_
  refine mx_callVi (ci := 10) (As := [.int p, .int q]) (rest := []) dX10_bestNew_3 (mt_areNoPeople G I m z hW p q) km_X10_areNoPeople rfl k_1318 k_1320 k_50 (by assumption) rfl rfl (Nat.le_of_ble_eq_true rfl) (by decide) (fun r1 Ir h2 => ?_)
  obtain ⟨e9, er⟩ := h2
  subst e9
  have hr0 : Ir m 0 = nI (fl_two z p q) := by rw [er, mx_u_at, if_pos ⟨rfl, rfl⟩]
  have hrf : mx_fr I Ir m (m + 23) := by rw [er]; exact (mx_fr.rf _ _ _).u (by omega)
  have hW1 : mW G Ir m z := hW.k (fun b k q => by rw [er, mx_u_at, if_neg (by omega)])
  clear er
  refine mx_ifB_eq 11 dX10_bestNew_6 (by decide) (fun c6 => ?_) (fun c6 => ?_)
  · skip
    have hm0 : fl_two z p q = 0 := by omega
    have k1 := fl_two_0 hm0
    clear hsz h2 htx htc hvp hdi hke h8
    have hs0 : oMD G m := hW1.1
    have hs1 := hs0
    have hW9 := hW1
    obtain ⟨tgm, -, -, ⟨r_now, t_now, l_now⟩, ⟨r_trial, t_trial, l_trial⟩, -⟩ := hs1
    obtain ⟨-, hsz, ⟨hn110, h2, htx, htc⟩, ⟨hvp, hN24⟩, ⟨hc14, h8, hdi⟩, hke⟩ := hW9
    have hN24 : gN (zG z) ≤ 24 := hN24
    have hgw : wfG (zG z) := hvp.1.1
    have hP8 : gP (zG z) ≤ 8 := hgw.1
    have hgb : ∀ s, s < gN (zG z) → gF (zG z) s < 8 ∧ gK (zG z) s < 4 ∧ gT (zG z) s < 8 ∧ 1 ≤ gC (zG z) s ∧ gC (zG z) s ≤ 9 := hgw.2.2
    have hn40 := hvp.2.2.2.1
    have hpne : p = nI p.toInt.toNat := (mx_nn (k1.1.1)).symm
    have hpnb : p.toInt.toNat < gP (zG z) := tn_lt k1.1
    have hpn31 : p.toInt.toNat < 2 ^ 31 := tn31 _
    generalize p.toInt.toNat = pn at hpne hpnb hpn31 ⊢
    subst hpne
    have hqne : q = nI q.toInt.toNat := (mx_nn (k1.2.1)).symm
    have hqnb : q.toInt.toNat < gP (zG z) := tn_lt k1.2
    have hqn31 : q.toInt.toNat < 2 ^ 31 := tn31 _
    generalize q.toInt.toNat = qn at hqne hqnb hqn31 ⊢
    subst hqne
    have hpn8 : pn < 8 := by omega
    have hqn8 : qn < 8 := by omega
    refine mx_aload_n (i := 0) (hi := rfl) (hl := rfl) (hd := dX10_bestNew_11) ?_
    refine mx_getR (ci := 10) (k := 5) (r := (m + 3)) dX10_bestNew_12 k_1018 (by decide) rfl (by assumption) (by assumption) (by omega) ?_
    refine mx_iconstN 0 dX10_bestNew_15 (by decide) ?_
    refine mx_aload_n (i := 0) (hi := rfl) (hl := rfl) (hd := dX10_bestNew_16) ?_
    refine mx_getR (ci := 10) (k := 6) (r := (m + 4)) dX10_bestNew_17 k_1019 (by decide) rfl (by assumption) (by assumption) (by omega) ?_
    refine mx_iconstN 0 dX10_bestNew_20 (by decide) ?_
    refine mx_callSi (As := [.ref (m + 3), .int (nI 0), .ref (m + 4), .int (nI 0)]) (rest := []) dX10_bestNew_21 (mt_copyGraph G Ir (m + 3) 0 (m + 4) 0 t_now t_trial (by omega) (by omega) (by omega) (by omega) (by omega)) km_X10_copyGraph rfl k_1190 k_1191 rfl rfl (Nat.le_of_ble_eq_true rfl) (by decide) (fun r3 I2 h4 => ?_)
    obtain ⟨e9, q1, q2⟩ := h4
    subst e9
    have hS0 : sS Ir I2 m := ⟨fun b hb => funext fun k => q2 b k (by omega), fun j hj => q2 m j (by omega)⟩
    have hvt0 : vpF (I2 (m + 4)) (zX z) := hvp.c (fun k hk => by have h9 := q1 k hk; rw [Nat.zero_add] at h9; exact h9)
    have hgv2 : gaF (I2 (m + 3)) (zG z) := hvp.1.c (by omega) (fun k _ => by rw [hS0.1 (m + 3) (by omega)])
    refine mx_aload_n (i := 0) (hi := rfl) (hl := rfl) (hd := dX10_bestNew_24) ?_
    refine mx_getR (ci := 10) (k := 5) (r := (m + 3)) dX10_bestNew_25 k_1018 (by decide) rfl (by assumption) (by assumption) (by omega) ?_
    refine mx_iconstN 1 dX10_bestNew_28 (by decide) ?_
    refine mx_ialdV 1 (nI (gN (zG z))) dX10_bestNew_29 (by assumption) ⟨rfl, by omega, by omega⟩ hgv2.2.2.1 ?_
    refine mx_istoreE_n (i := 3) (ls' := [some (.ref m), some (.int (nI pn)), some (.int (nI qn)), some (.int (nI (gN (zG z)))), none, none, none, none, none, none, none, none]) (hi := rfl) (hd := dX10_bestNew_30) (hn := by decide) (hok := rfl) (hls := rfl) ?_
    refine mx_bipush (v := (-9)) (by decide) dX10_bestNew_31 ?_
    refine mx_istoreE (i := 4) (ls' := [some (.ref m), some (.int (nI pn)), some (.int (nI qn)), some (.int (nI (gN (zG z)))), some (.int (-9)), none, none, none, none, none, none, none]) (hd := dX10_bestNew_33) (hn := by decide) (hok := rfl) (hls := rfl) ?_
    refine mx_ldcw (v := (100000)) k_1363 dX10_bestNew_35 ?_
    refine mx_top (y := nI 100000) (by decide) ?_
    refine mx_istoreE (i := 5) (ls' := [some (.ref m), some (.int (nI pn)), some (.int (nI qn)), some (.int (nI (gN (zG z)))), some (.int (-9)), some (.int (nI 100000)), none, none, none, none, none, none]) (hd := dX10_bestNew_38) (hn := by decide) (hok := rfl) (hls := rfl) ?_
    have L43 : ∀ (fq : Nat) (v : Nat) (fo : Option Nat) (l : Nat) (I1 : mx_I), 800 - v < fq → (v ≤ 800) → (bnM z pn qn v = (fo, l)) → (trF (I1 (m + 4)) (zX z)) → (sS Ir I1 m) → mx_V mX10_bestNew mx_S0 7 0 0 43 [some (.ref m), some (.int (nI pn)), some (.int (nI qn)), some (.int (nI (gN (zG z)))), some (.int (oI fo)), some (.int (nI l)), some (.int (nI v)), none, none, none, none, none] [] G I1 (fun rv Gz Iz => (fun rv I1 => I1 m 0 = nI (fl_two z (nI pn) (nI qn)) ∧ mx_fr I I1 m (m + 23) ∧ ((fl_two z (nI pn) (nI qn)) = 0 → rv = some (.int (oI (am_bestNew z pn qn))) ∧ mW G I1 m (z)) ∧ (¬ (fl_two z (nI pn) (nI qn)) = 0 → (∃ w9, rv = some (.int w9)) ∧ mW G I1 m z)) rv Iz ∧ Gz = G) (fun _ _ _ => False) := by
      intro fq
      induction fq with
      | zero => intro v fo l I1 hfu; exact absurd hfu (Nat.not_lt_zero _)
      | succ fq ih =>
        intro v fo l I1 hfu hv hx htr hS1
        have hl31 : l < 2 ^ 31 := by have := bnM_le z pn qn v; rw [hx] at this; omega
        have hgv1 : gaF (I1 (m + 3)) (zG z) := hvp.1.c (by omega) (fun k _ => by rw [hS1.1 (m + 3) (by omega)])
        have J135 : ∀ (_ : Unit), (v < 800) → mx_V mX10_bestNew mx_S0 7 0 0 135 [some (.ref m), some (.int (nI pn)), some (.int (nI qn)), some (.int (nI (gN (zG z)))), some (.int (oI fo)), some (.int (nI l)), some (.int (nI v)), some (.int (nI (v / 100))), some (.int (nI (v / 10 % 10))), some (.int (nI (v % 10))), none, none] [.int (mx_b (decide (mayB z v)))] G I1 (fun rv Gz Iz => (fun rv I1 => I1 m 0 = nI (fl_two z (nI pn) (nI qn)) ∧ mx_fr I I1 m (m + 23) ∧ ((fl_two z (nI pn) (nI qn)) = 0 → rv = some (.int (oI (am_bestNew z pn qn))) ∧ mW G I1 m (z)) ∧ (¬ (fl_two z (nI pn) (nI qn)) = 0 → (∃ w9, rv = some (.int w9)) ∧ mW G I1 m z)) rv Iz ∧ Gz = G) (fun _ _ _ => False) := by
          intro _ hv8
          refine mx_istoreE (i := 10) (ls' := [some (.ref m), some (.int (nI pn)), some (.int (nI qn)), some (.int (nI (gN (zG z)))), some (.int (oI fo)), some (.int (nI l)), some (.int (nI v)), some (.int (nI (v / 100))), some (.int (nI (v / 10 % 10))), some (.int (nI (v % 10))), some (.int (mx_b (decide (mayB z v)))), none]) (hd := dX10_bestNew_135) (hn := by decide) (hok := rfl) (hls := rfl) ?_
          refine mx_iload (i := 10) (hl := rfl) (hd := dX10_bestNew_137) ?_
          refine mx_ifB_eq 214 dX10_bestNew_139 (by decide) (fun c139 => ?_) (fun c139 => ?_)
          · skip
            refine mx_iincE (i := 6) (ls' := [some (.ref m), some (.int (nI pn)), some (.int (nI qn)), some (.int (nI (gN (zG z)))), some (.int (oI fo)), some (.int (nI l)), some (.int (nI (v + 1))), some (.int (nI (v / 100))), some (.int (nI (v / 10 % 10))), some (.int (nI (v % 10))), some (.int (mx_b (decide (mayB z v)))), none]) 1 dX10_bestNew_214 rfl (by decide) (by decide) rfl rfl ?_
            refine mx_goto (tgt := 43) dX10_bestNew_217 (by decide) ?_
            refine mx_leS (ls' := [some (.ref m), some (.int (nI pn)), some (.int (nI qn)), some (.int (nI (gN (zG z)))), some (.int (oI fo)), some (.int (nI l)), some (.int (nI (v + 1))), none, none, none, none, none]) ⟨rfl, rfl, rfl, rfl, rfl, rfl, rfl, trivial⟩ ?_
            exact ih (v + 1) fo l _ (by omega) (by omega) (by show (if mayB z v then _ else _) = _; rw [if_neg c139]; exact hx) htr hS1
          · skip
            obtain ⟨⟨⟨⟨c81, c96⟩, c103⟩, c109⟩, -⟩ := (id c139 : mayB z v)
            have hvt : vpF (mx_u I1 (m + 4) 1 (nI (gN (zG z))) (m + 4)) (zX z) := htr _ (by rw [mx_u_at, if_pos ⟨rfl, rfl⟩]) (fun k hk => by rw [mx_u_at, if_neg (by omega)])
            refine mx_aload_n (i := 0) (hi := rfl) (hl := rfl) (hd := dX10_bestNew_142) ?_
            refine mx_getR (ci := 10) (k := 6) (r := (m + 4)) dX10_bestNew_143 k_1019 (by decide) rfl (by assumption) (by assumption) (by omega) ?_
            refine mx_iconstN 1 dX10_bestNew_146 (by decide) ?_
            refine mx_iload_n (i := 3) (hi := rfl) (hl := rfl) (hd := dX10_bestNew_147) ?_
            refine mx_iast 1 dX10_bestNew_148 (by assumption) ⟨rfl, by omega, by omega⟩ ?_
            refine mx_aload_n (i := 0) (hi := rfl) (hl := rfl) (hd := dX10_bestNew_149) ?_
            refine mx_getR (ci := 10) (k := 6) (r := (m + 4)) dX10_bestNew_150 k_1019 (by decide) rfl (by assumption) (by assumption) (by omega) ?_
            refine mx_iload (i := 7) (hl := rfl) (hd := dX10_bestNew_153) ?_
            refine mx_iload (i := 8) (hl := rfl) (hd := dX10_bestNew_155) ?_
            refine mx_iload (i := 9) (hl := rfl) (hd := dX10_bestNew_157) ?_
            refine mx_iconstN 1 dX10_bestNew_159 (by decide) ?_
            refine mx_callSi (As := [.ref (m + 4), .int (nI (v / 100)), .int (nI (v / 10 % 10)), .int (nI (v % 10)), .int (nI 1)]) (rest := []) dX10_bestNew_160 (mt_add G (mx_u I1 (m + 4) 1 (nI (gN (zG z)))) (m + 4) (zG z) t_trial l_trial hvt.1 (v / 100) (v / 10 % 10) (v % 10) 1 (by omega) (by omega) (by omega) (by decide) hN24) km_X10_add rfl k_1183 k_1184 rfl rfl (Nat.le_of_ble_eq_true rfl) (by decide) (fun r5 I3 h6 => ?_)
            obtain ⟨e9, n1, n2, n3⟩ := h6
            subst e9
            have hv3 : vpF (I3 (m + 4)) (nwG z v, (zX z).2) := vpF.put hvt n1 n2
            refine mx_pop (hva := rfl) (hd := dX10_bestNew_163) ?_
            refine mx_aload_n (i := 0) (hi := rfl) (hl := rfl) (hd := dX10_bestNew_164) ?_
            refine mx_aload_n (i := 0) (hi := rfl) (hl := rfl) (hd := dX10_bestNew_165) ?_
            refine mx_getR (ci := 10) (k := 6) (r := (m + 4)) dX10_bestNew_166 k_1019 (by decide) rfl (by assumption) (by assumption) (by omega) ?_
            refine mx_iload_n (i := 1) (hi := rfl) (hl := rfl) (hd := dX10_bestNew_169) ?_
            refine mx_iload_n (i := 2) (hi := rfl) (hl := rfl) (hd := dX10_bestNew_170) ?_
            refine mx_bipush (v := (-9)) (by decide) dX10_bestNew_171 ?_
            refine mx_callVi (ci := 10) (As := [.ref (m + 4), .int (nI pn), .int (nI qn), .int (-9)]) (rest := []) dX10_bestNew_173 (mt_bestOf G I3 m hs0 (m + 4) (nwG z v, (zX z).2) (Or.inr rfl) t_trial l_trial hv3 pn qn hpn8 hqn8 none (fun z9 hz9 => (nomatch hz9))) km_X10_bestOf rfl k_1355 k_1357 k_55 (by assumption) rfl rfl (Nat.le_of_ble_eq_true rfl) (by decide) (fun r7 I4 h8 => ?_)
            obtain ⟨e9, hfw, hS4⟩ := h8
            subst e9
            have heb9 : eb (bmX z pn qn v) := bR_eb hv3.1.1 (wfP_vA hv3.2.2.2) (fun s hs => prM_9 hv3.1.1 none s hs) hpn8 (by decide)
            have htr5 : trF (I4 (m + 4)) (zX z) := by rw [hS4.1 (m + 4) (by omega)]; exact trF.put hvt n1 n2
            have hS5 : sS Ir I4 m := hS1.tr (sS.tr ⟨fun b hb => (n3 b (by omega)).trans (funext fun k => by rw [mx_u_at, if_neg (by omega)]), fun j hj => by rw [n3 m (by omega), mx_u_at, if_neg (by omega)]⟩ hS4.s)
            refine mx_sipushN 1000 dX10_bestNew_176 (by decide) ?_
            refine mx_idivN dX10_bestNew_179 (en_31 heb9) (by decide) ?_
            refine mx_istoreE (i := 11) (ls' := [some (.ref m), some (.int (nI pn)), some (.int (nI qn)), some (.int (nI (gN (zG z)))), some (.int (oI fo)), some (.int (nI l)), some (.int (nI v)), some (.int (nI (v / 100))), some (.int (nI (v / 10 % 10))), some (.int (nI (v % 10))), some (.int (mx_b (decide (mayB z v)))), some (.int (nI ((enM (bmX z pn qn v)) / 1000)))]) (hd := dX10_bestNew_180) (hn := by decide) (hok := rfl) (hls := rfl) ?_
            refine mx_iload (i := 11) (hl := rfl) (hd := dX10_bestNew_182) ?_
            refine mx_iload (i := 5) (hl := rfl) (hd := dX10_bestNew_184) ?_
            refine mx_cmpN_ge 194 dX10_bestNew_186 (by decide) (Nat.lt_of_le_of_lt (Nat.div_le_self _ _) (en_31 heb9)) (hl31) (fun c186 => ?_) (fun c186 => ?_)
            · skip
              refine mx_iload (i := 4) (hl := rfl) (hd := dX10_bestNew_194) ?_
              refine mx_istoreE (i := 4) (ls' := [some (.ref m), some (.int (nI pn)), some (.int (nI qn)), some (.int (nI (gN (zG z)))), some (.int (oI fo)), some (.int (nI l)), some (.int (nI v)), some (.int (nI (v / 100))), some (.int (nI (v / 10 % 10))), some (.int (nI (v % 10))), some (.int (mx_b (decide (mayB z v)))), some (.int (nI ((enM (bmX z pn qn v)) / 1000)))]) (hd := dX10_bestNew_196) (hn := by decide) (hok := rfl) (hls := rfl) ?_
              refine mx_iload (i := 11) (hl := rfl) (hd := dX10_bestNew_198) ?_
              refine mx_iload (i := 5) (hl := rfl) (hd := dX10_bestNew_200) ?_
              refine mx_cmpN_ge 210 dX10_bestNew_202 (by decide) (Nat.lt_of_le_of_lt (Nat.div_le_self _ _) (en_31 heb9)) (hl31) (fun c202 => ?_) (fun c202 => ?_)
              · skip
                
                refine mx_iload (i := 5) (hl := rfl) (hd := dX10_bestNew_210) ?_
                refine mx_istoreE (i := 5) (ls' := [some (.ref m), some (.int (nI pn)), some (.int (nI qn)), some (.int (nI (gN (zG z)))), some (.int (oI fo)), some (.int (nI l)), some (.int (nI v)), some (.int (nI (v / 100))), some (.int (nI (v / 10 % 10))), some (.int (nI (v % 10))), some (.int (mx_b (decide (mayB z v)))), some (.int (nI ((enM (bmX z pn qn v)) / 1000)))]) (hd := dX10_bestNew_212) (hn := by decide) (hok := rfl) (hls := rfl) ?_
                refine mx_iincE (i := 6) (ls' := [some (.ref m), some (.int (nI pn)), some (.int (nI qn)), some (.int (nI (gN (zG z)))), some (.int (oI fo)), some (.int (nI l)), some (.int (nI (v + 1))), some (.int (nI (v / 100))), some (.int (nI (v / 10 % 10))), some (.int (nI (v % 10))), some (.int (mx_b (decide (mayB z v)))), some (.int (nI ((enM (bmX z pn qn v)) / 1000)))]) 1 dX10_bestNew_214 rfl (by decide) (by decide) rfl rfl ?_
                refine mx_goto (tgt := 43) dX10_bestNew_217 (by decide) ?_
                refine mx_leS (ls' := [some (.ref m), some (.int (nI pn)), some (.int (nI qn)), some (.int (nI (gN (zG z)))), some (.int (oI fo)), some (.int (nI l)), some (.int (nI (v + 1))), none, none, none, none, none]) ⟨rfl, rfl, rfl, rfl, rfl, rfl, rfl, trivial⟩ ?_
                exact ih (v + 1) fo _ _ (by omega) (by omega) (by show (if mayB z v then (if enM (bmX z pn qn v) / 1000 < (bnM z pn qn v).2 then _ else _) else _) = _; rw [if_pos c139, hx, if_neg (show ¬ _ < l by omega)]) htr5 hS5
              · skip
                exact absurd c202 (by omega)
            · skip
              refine mx_iload (i := 6) (hl := rfl) (hd := dX10_bestNew_189) ?_
              refine mx_goto (tgt := 196) dX10_bestNew_191 (by decide) ?_
              refine mx_istoreE (i := 4) (ls' := [some (.ref m), some (.int (nI pn)), some (.int (nI qn)), some (.int (nI (gN (zG z)))), some (.int (nI v)), some (.int (nI l)), some (.int (nI v)), some (.int (nI (v / 100))), some (.int (nI (v / 10 % 10))), some (.int (nI (v % 10))), some (.int (mx_b (decide (mayB z v)))), some (.int (nI ((enM (bmX z pn qn v)) / 1000)))]) (hd := dX10_bestNew_196) (hn := by decide) (hok := rfl) (hls := rfl) ?_
              refine mx_iload (i := 11) (hl := rfl) (hd := dX10_bestNew_198) ?_
              refine mx_iload (i := 5) (hl := rfl) (hd := dX10_bestNew_200) ?_
              refine mx_cmpN_ge 210 dX10_bestNew_202 (by decide) (Nat.lt_of_le_of_lt (Nat.div_le_self _ _) (en_31 heb9)) (hl31) (fun c202 => ?_) (fun c202 => ?_)
              · skip
                exact absurd c202 (by omega)
              · skip
                
                refine mx_iload (i := 11) (hl := rfl) (hd := dX10_bestNew_205) ?_
                refine mx_goto (tgt := 212) dX10_bestNew_207 (by decide) ?_
                refine mx_istoreE (i := 5) (ls' := [some (.ref m), some (.int (nI pn)), some (.int (nI qn)), some (.int (nI (gN (zG z)))), some (.int (nI v)), some (.int (nI ((enM (bmX z pn qn v)) / 1000))), some (.int (nI v)), some (.int (nI (v / 100))), some (.int (nI (v / 10 % 10))), some (.int (nI (v % 10))), some (.int (mx_b (decide (mayB z v)))), some (.int (nI ((enM (bmX z pn qn v)) / 1000)))]) (hd := dX10_bestNew_212) (hn := by decide) (hok := rfl) (hls := rfl) ?_
                refine mx_iincE (i := 6) (ls' := [some (.ref m), some (.int (nI pn)), some (.int (nI qn)), some (.int (nI (gN (zG z)))), some (.int (nI v)), some (.int (nI ((enM (bmX z pn qn v)) / 1000))), some (.int (nI (v + 1))), some (.int (nI (v / 100))), some (.int (nI (v / 10 % 10))), some (.int (nI (v % 10))), some (.int (mx_b (decide (mayB z v)))), some (.int (nI ((enM (bmX z pn qn v)) / 1000)))]) 1 dX10_bestNew_214 rfl (by decide) (by decide) rfl rfl ?_
                refine mx_goto (tgt := 43) dX10_bestNew_217 (by decide) ?_
                refine mx_leS (ls' := [some (.ref m), some (.int (nI pn)), some (.int (nI qn)), some (.int (nI (gN (zG z)))), some (.int (nI v)), some (.int (nI ((enM (bmX z pn qn v)) / 1000))), some (.int (nI (v + 1))), none, none, none, none, none]) ⟨rfl, rfl, rfl, rfl, rfl, rfl, rfl, trivial⟩ ?_
                exact ih (v + 1) (some v) _ _ (by omega) (by omega) (by show (if mayB z v then (if enM (bmX z pn qn v) / 1000 < (bnM z pn qn v).2 then _ else _) else _) = _; rw [if_pos c139, hx, if_pos (show _ < l by omega)]) htr5 hS5
        refine mx_iload (i := 6) (hl := rfl) (hd := dX10_bestNew_43) ?_
        refine mx_sipushN 800 dX10_bestNew_45 (by decide) ?_
        refine mx_cmpN_ge 220 dX10_bestNew_48 (by decide) (by omega) (by omega) (fun c48 => ?_) (fun c48 => ?_)
        · skip
          refine mx_iload (i := 4) (hl := rfl) (hd := dX10_bestNew_220) ?_
          exact mx_iret dX10_bestNew_222 rfl rfl (⟨⟨(hS1.2 0 (by omega)).trans hr0, mt_fr hrf hS1.fr, fun _ => ⟨by unfold am_bestNew; rw [show (800 : Nat) = v by omega, hx], hW1.sS hS1⟩, fun z9 => absurd hm0 z9⟩, rfl⟩)
        · skip
          refine mx_iload (i := 6) (hl := rfl) (hd := dX10_bestNew_51) ?_
          refine mx_bipushN 100 dX10_bestNew_53 (by decide) ?_
          refine mx_idivN dX10_bestNew_55 (by omega) (by decide) ?_
          refine mx_istoreE (i := 7) (ls' := [some (.ref m), some (.int (nI pn)), some (.int (nI qn)), some (.int (nI (gN (zG z)))), some (.int (oI fo)), some (.int (nI l)), some (.int (nI v)), some (.int (nI (v / 100))), none, none, none, none]) (hd := dX10_bestNew_56) (hn := by decide) (hok := rfl) (hls := rfl) ?_
          refine mx_iload (i := 6) (hl := rfl) (hd := dX10_bestNew_58) ?_
          refine mx_bipushN 10 dX10_bestNew_60 (by decide) ?_
          refine mx_idivN dX10_bestNew_62 (by omega) (by decide) ?_
          refine mx_bipushN 10 dX10_bestNew_63 (by decide) ?_
          refine mx_iremN dX10_bestNew_65 (by omega) (by decide) ?_
          refine mx_istoreE (i := 8) (ls' := [some (.ref m), some (.int (nI pn)), some (.int (nI qn)), some (.int (nI (gN (zG z)))), some (.int (oI fo)), some (.int (nI l)), some (.int (nI v)), some (.int (nI (v / 100))), some (.int (nI ((v / 10) % 10))), none, none, none]) (hd := dX10_bestNew_66) (hn := by decide) (hok := rfl) (hls := rfl) ?_
          refine mx_iload (i := 6) (hl := rfl) (hd := dX10_bestNew_68) ?_
          refine mx_bipushN 10 dX10_bestNew_70 (by decide) ?_
          refine mx_iremN dX10_bestNew_72 (by omega) (by decide) ?_
          refine mx_istoreE (i := 9) (ls' := [some (.ref m), some (.int (nI pn)), some (.int (nI qn)), some (.int (nI (gN (zG z)))), some (.int (oI fo)), some (.int (nI l)), some (.int (nI v)), some (.int (nI (v / 100))), some (.int (nI ((v / 10) % 10))), some (.int (nI (v % 10))), none, none]) (hd := dX10_bestNew_73) (hn := by decide) (hok := rfl) (hls := rfl) ?_
          refine mx_aload_n (i := 0) (hi := rfl) (hl := rfl) (hd := dX10_bestNew_75) ?_
          refine mx_getR (ci := 10) (k := 5) (r := (m + 3)) dX10_bestNew_76 k_1018 (by decide) rfl (by assumption) (by assumption) (by omega) ?_
          refine mx_iload (i := 7) (hl := rfl) (hd := dX10_bestNew_79) ?_
          refine mx_callSp (As := [.ref (m + 3), .int (nI (v / 100))]) (rest := []) dX10_bestNew_81 (mt_isPersonN G I1 (m + 3) (zG z) t_now l_now hgv1 (v / 100) (by omega)) km_X10_isPerson rfl k_1243 k_1244 rfl rfl (Nat.le_of_ble_eq_true rfl) (by decide) ?_
          refine mx_ifB_eq 134 dX10_bestNew_84 (by decide) (fun c84 => ?_) (fun c84 => ?_)
          · skip
            refine mx_iconstN 0 dX10_bestNew_134 (by decide) ?_
            have hng : ¬ mayB z v := by
              intro h9
              obtain ⟨⟨⟨⟨a1, a2⟩, a3⟩, a4⟩, a5⟩ := h9
              first | exact c84 a1 | exact c96 a2 | exact a3 c103 | exact absurd a4 (by omega) | exact c127 ((gIx_iff (by omega)).mpr a5)
            refine mx_top (y := mx_b (decide (mayB z v))) (mx_bF hng) ?_
            exact J135 () (by omega)
          · skip
            refine mx_aload_n (i := 0) (hi := rfl) (hl := rfl) (hd := dX10_bestNew_87) ?_
            refine mx_getR (ci := 10) (k := 5) (r := (m + 3)) dX10_bestNew_88 k_1018 (by decide) rfl (by assumption) (by assumption) (by omega) ?_
            refine mx_iload (i := 9) (hl := rfl) (hd := dX10_bestNew_91) ?_
            refine mx_callSp (As := [.ref (m + 3), .int (nI (v % 10))]) (rest := []) dX10_bestNew_93 (mt_isPersonN G I1 (m + 3) (zG z) t_now l_now hgv1 (v % 10) (by omega)) km_X10_isPerson rfl k_1243 k_1244 rfl rfl (Nat.le_of_ble_eq_true rfl) (by decide) ?_
            refine mx_ifB_eq 134 dX10_bestNew_96 (by decide) (fun c96 => ?_) (fun c96 => ?_)
            · skip
              refine mx_iconstN 0 dX10_bestNew_134 (by decide) ?_
              have hng : ¬ mayB z v := by
                intro h9
                obtain ⟨⟨⟨⟨a1, a2⟩, a3⟩, a4⟩, a5⟩ := h9
                first | exact c84 a1 | exact c96 a2 | exact a3 c103 | exact absurd a4 (by omega) | exact c127 ((gIx_iff (by omega)).mpr a5)
              refine mx_top (y := mx_b (decide (mayB z v))) (mx_bF hng) ?_
              exact J135 () (by omega)
            · skip
              refine mx_iload (i := 7) (hl := rfl) (hd := dX10_bestNew_99) ?_
              refine mx_iload (i := 9) (hl := rfl) (hd := dX10_bestNew_101) ?_
              refine mx_cmpN_eq 134 dX10_bestNew_103 (by decide) (by omega) (by omega) (fun c103 => ?_) (fun c103 => ?_)
              · skip
                refine mx_iconstN 0 dX10_bestNew_134 (by decide) ?_
                have hng : ¬ mayB z v := by
                  intro h9
                  obtain ⟨⟨⟨⟨a1, a2⟩, a3⟩, a4⟩, a5⟩ := h9
                  first | exact c84 a1 | exact c96 a2 | exact a3 c103 | exact absurd a4 (by omega) | exact c127 ((gIx_iff (by omega)).mpr a5)
                refine mx_top (y := mx_b (decide (mayB z v))) (mx_bF hng) ?_
                exact J135 () (by omega)
              · skip
                refine mx_iload (i := 8) (hl := rfl) (hd := dX10_bestNew_106) ?_
                refine mx_iconstN 4 dX10_bestNew_108 (by decide) ?_
                refine mx_cmpN_ge 134 dX10_bestNew_109 (by decide) (by omega) (by omega) (fun c109 => ?_) (fun c109 => ?_)
                · skip
                  refine mx_iconstN 0 dX10_bestNew_134 (by decide) ?_
                  have hng : ¬ mayB z v := by
                    intro h9
                    obtain ⟨⟨⟨⟨a1, a2⟩, a3⟩, a4⟩, a5⟩ := h9
                    first | exact c84 a1 | exact c96 a2 | exact a3 c103 | exact absurd a4 (by omega) | exact c127 ((gIx_iff (by omega)).mpr a5)
                  refine mx_top (y := mx_b (decide (mayB z v))) (mx_bF hng) ?_
                  exact J135 () (by omega)
                · skip
                  refine mx_aload_n (i := 0) (hi := rfl) (hl := rfl) (hd := dX10_bestNew_112) ?_
                  refine mx_getR (ci := 10) (k := 5) (r := (m + 3)) dX10_bestNew_113 k_1018 (by decide) rfl (by assumption) (by assumption) (by omega) ?_
                  refine mx_iload (i := 7) (hl := rfl) (hd := dX10_bestNew_116) ?_
                  refine mx_iload (i := 8) (hl := rfl) (hd := dX10_bestNew_118) ?_
                  refine mx_iload (i := 9) (hl := rfl) (hd := dX10_bestNew_120) ?_
                  refine mx_callSp (As := [.ref (m + 3), .int (nI (v / 100)), .int (nI ((v / 10) % 10)), .int (nI (v % 10))]) (rest := []) dX10_bestNew_122 (mt_found G I1 (m + 3) (zG z) t_now l_now hgv1 (v / 100) (v / 10 % 10) (v % 10) (by omega) (by omega) (by omega)) km_X10_found rfl k_1177 k_1178 rfl rfl (Nat.le_of_ble_eq_true rfl) (by decide) ?_
                  refine mx_bipush (v := (-9)) (by decide) dX10_bestNew_125 ?_
                  refine mx_icmp_ne (tgt := 134) dX10_bestNew_127 (by decide) (fun c127 => ?_) (fun c127 => ?_)
                  · skip
                    refine mx_iconstN 0 dX10_bestNew_134 (by decide) ?_
                    have hng : ¬ mayB z v := by
                      intro h9
                      obtain ⟨⟨⟨⟨a1, a2⟩, a3⟩, a4⟩, a5⟩ := h9
                      first | exact c84 a1 | exact c96 a2 | exact a3 c103 | exact absurd a4 (by omega) | exact c127 ((gIx_iff (by omega)).mpr a5)
                    refine mx_top (y := mx_b (decide (mayB z v))) (mx_bF hng) ?_
                    exact J135 () (by omega)
                  · skip
                    refine mx_iconstN 1 dX10_bestNew_130 (by decide) ?_
                    refine mx_goto (tgt := 135) dX10_bestNew_131 (by decide) ?_
                    refine mx_top (y := mx_b (decide (mayB z v))) (mx_bT ⟨⟨⟨⟨c84, c96⟩, c103⟩, by omega⟩, (gIx_iff (by omega)).mp c127⟩) ?_
                    exact J135 () (by omega)
    refine mx_iconstN 0 dX10_bestNew_40 (by decide) ?_
    refine mx_istoreE (i := 6) (ls' := [some (.ref m), some (.int (nI pn)), some (.int (nI qn)), some (.int (nI (gN (zG z)))), some (.int (-9)), some (.int (nI 100000)), some (.int (nI 0)), none, none, none, none, none]) (hd := dX10_bestNew_41) (hn := by decide) (hok := rfl) (hls := rfl) ?_
    exact L43 _ 0 none 100000 _ (Nat.lt_succ_self _) (Nat.zero_le _) rfl (trF.of hvt0) hS0
  · skip
    refine mx_iconstN 0 dX10_bestNew_9 (by decide) ?_
    exact mx_iret dX10_bestNew_10 rfl rfl (⟨⟨hr0, hrf, fun z9 => absurd z9 (by omega), fun _ => ⟨⟨_, rfl⟩, hW1⟩⟩, rfl⟩)
