/-! THE REFERENCE: pathAt -/
theorem lvM_up {rs : Nat → Nat} {a se k lf i : Nat} (h : ∀ j, i ≤ j → se.testBit j = false) : ∀ n, i ≤ n → lvM rs a se k lf n = lvM rs a se k lf i := by
  intro n hn
  induction n with
  | zero => rw [show i = 0 by omega]
  | succ n ih =>
    by_cases e : i = n + 1
    · rw [e]
    · rw [lvM, h n (by omega), if_neg (fun q => Bool.noConfusion q.1), Nat.or_zero]
      exact ih (by omega)
theorem lvM_lt {rs : Nat → Nat} {a se k lf : Nat} : ∀ i, i ≤ 21 → lvM rs a se k lf i < 2 ^ 21
  | 0, _ => Nat.two_pow_pos 21
  | i + 1, h => by
    unfold lvM
    refine mx_or_lt (lvM_lt i (by omega)) ?_
    split
    · exact Nat.pow_lt_pow_right (by decide) (by omega)
    · exact Nat.two_pow_pos 21
theorem lvM_le {rs : Nat → Nat} {a se k lf : Nat} (h : lf < k) : ∀ i, lvM rs a se k lf i = 0
  | 0 => rfl
  | i + 1 => by rw [lvM, lvM_le h i, if_neg (by omega)]; rfl
theorem mx_lfM {r k lf : Nat} (hr : r ≤ 100000000) (hk : k ≤ 10000) (hl : lf ≤ 100000000) : nI r = nI lf - nI k - nI 1 ↔ r + (k + 1) = lf := by
  rw [i32_sub, i32_sub, nI_add, nI_add, nI_eq (by omega) (by omega)]
  omega
/-- one going tried by the reference -/
def gwM (v : Gr) (A : Pa) (fr : Nat → Nat) (x : Wk) (o : Nat) : Option Wk :=
  if (if o % 2 = 0 then gF v (o / 2) else gT v (o / 2)) = x.1 then
    (if lvM fr (if o % 2 = 0 then gT v (o / 2) else gF v (o / 2)) (pFol A x.2.1 &&& pEn A (o % 2) (gK v (o / 2))) (1000 * gC v (o / 2) + 1) x.2.2 (pL A + 1) = 0 then none
     else some (if o % 2 = 0 then gT v (o / 2) else gF v (o / 2), lvM fr (if o % 2 = 0 then gT v (o / 2) else gF v (o / 2)) (pFol A x.2.1 &&& pEn A (o % 2) (gK v (o / 2))) (1000 * gC v (o / 2) + 1) x.2.2 (pL A + 1), x.2.2 - (1000 * gC v (o / 2) + 1)))
  else none
theorem gwM_0 {v : Gr} {A : Pa} {fr : Nat → Nat} {x : Wk} {o s : Nat} (hd : o % 2 = 0) (hs : o / 2 = s) : gwM v A fr x o = if gF v s = x.1 then (if lvM fr (gT v s) (pFol A x.2.1 &&& pEn A 0 (gK v s)) (1000 * gC v s + 1) x.2.2 (pL A + 1) = 0 then none else some (gT v s, lvM fr (gT v s) (pFol A x.2.1 &&& pEn A 0 (gK v s)) (1000 * gC v s + 1) x.2.2 (pL A + 1), x.2.2 - (1000 * gC v s + 1))) else none := by
  unfold gwM
  rw [hs, hd]
  rfl
theorem gwM_1 {v : Gr} {A : Pa} {fr : Nat → Nat} {x : Wk} {o s : Nat} (hd : ¬ o % 2 = 0) (hs : o / 2 = s) : gwM v A fr x o = if gT v s = x.1 then (if lvM fr (gF v s) (pFol A x.2.1 &&& pEn A 1 (gK v s)) (1000 * gC v s + 1) x.2.2 (pL A + 1) = 0 then none else some (gF v s, lvM fr (gF v s) (pFol A x.2.1 &&& pEn A 1 (gK v s)) (1000 * gC v s + 1) x.2.2 (pL A + 1), x.2.2 - (1000 * gC v s + 1))) else none := by
  unfold gwM
  rw [hs, show o % 2 = 1 by omega]
  rfl
/-- the first going, of those from o on, that goes -/
def avO (g : Nat → Option Wk) : Nat → Nat → Option (Nat × Wk)
  | 0, _ => none
  | f + 1, o => match g o with
    | some y => some (o, y)
    | none => avO g f (o + 1)
theorem avO_n {g : Nat → Option Wk} {M o : Nat} (h : g o = none) (ho : o < M) : avO g (M - o) o = avO g (M - (o + 1)) (o + 1) := by
  rw [show M - o = (M - (o + 1)) + 1 by omega, avO, h]
theorem avO_s {g : Nat → Option Wk} {M o : Nat} {y : Wk} (h : g o = some y) (ho : o < M) : avO g (M - o) o = some (o, y) := by
  rw [show M - o = (M - (o + 1)) + 1 by omega, avO, h]
/-- the walk: the latest going, where one is -/
def gaM (v : Gr) (A : Pa) (fr : Nat → Nat) (x : Wk) : Nat → Option Nat × Wk
  | 0 => (none, x)
  | n + 1 => match avO (gwM v A fr (gaM v A fr x n).2) (2 * gN v - 0) 0 with
    | none => gaM v A fr x n
    | some y => (some (10 * (y.1 / 2) + y.1 % 2), y.2)
theorem gaM_n {v : Gr} {A : Pa} {fr : Nat → Nat} {x : Wk} {n : Nat} {g : Option Nat} {y : Wk} (h : gaM v A fr x n = (g, y)) (h1 : avO (gwM v A fr y) (2 * gN v - 0) 0 = none) : gaM v A fr x (n + 1) = (g, y) := by
  rw [gaM, h, h1]
theorem gaM_s {v : Gr} {A : Pa} {fr : Nat → Nat} {x : Wk} {n : Nat} {g : Option Nat} {y : Wk} {w : Nat × Wk} (h : gaM v A fr x n = (g, y)) (h1 : avO (gwM v A fr y) (2 * gN v - 0) 0 = some w) : gaM v A fr x (n + 1) = (some (10 * (w.1 / 2) + w.1 % 2), w.2) := by
  rw [gaM, h, h1]
noncomputable def frM (z : Zs) (q : Nat) : Nat → Nat := fun j => if j < 168 then enM (bR (zG z) (vA (zX z)) (prM (zG z) none) (tgA (vA (zX z)) q) (j / 21) (j % 21)) else 0
noncomputable def am_pathAt (z : Zs) (p q i : Nat) : Option Nat := match bM z p q with
  | none => none
  | some y => if i < y.2 then (gaM (zG z) (vA (zX z)) (frM z q) (p, 1, enM (bM z p q)) (i + 1)).1 else none
theorem am_p1 {z : Zs} {p q i : Nat} (he : eb (bM z p q)) (h : 100000000 ≤ enM (bM z p q)) : -9 = oI (am_pathAt z p q i) := by
  unfold am_pathAt; rw [(en_lt he).mp h]; rfl
theorem am_p2 {z : Zs} {p q i : Nat} (he : eb (bM z p q)) (h : ¬ 100000000 ≤ enM (bM z p q)) (h2 : ¬ i < enM (bM z p q) % 1000) : -9 = oI (am_pathAt z p q i) := by
  have h1 := en_mod he (fun q9 => h ((en_lt he).mpr q9))
  unfold am_pathAt
  cases e : bM z p q with
  | none => rfl
  | some y =>
    rw [e] at h1 h2
    have h1 : enM (some y) % 1000 = y.2 := Option.some.inj h1
    rw [h1] at h2
    show -9 = oI (if i < y.2 then _ else none)
    rw [if_neg h2]
    rfl
theorem am_p3 {z : Zs} {p q i : Nat} {x : Option Nat} {w : Wk} (he : eb (bM z p q)) (h : ¬ 100000000 ≤ enM (bM z p q)) (h2 : i < enM (bM z p q) % 1000) (h3 : gaM (zG z) (vA (zX z)) (frM z q) (p, 1, enM (bM z p q)) (i + 1) = (x, w)) : oI x = oI (am_pathAt z p q i) := by
  have h1 := en_mod he (fun q9 => h ((en_lt he).mpr q9))
  unfold am_pathAt
  cases e : bM z p q with
  | none => rw [e] at h1; exact nomatch h1
  | some y =>
    rw [e] at h1 h2 h3
    have h1 : enM (some y) % 1000 = y.2 := Option.some.inj h1
    rw [h1] at h2
    show oI x = oI (if i < y.2 then (gaM (zG z) (vA (zX z)) (frM z q) (p, 1, enM (some y)) (i + 1)).1 else none)
    rw [if_pos h2, h3]
theorem frM_ar {I : mx_I} {m : Nat} {z : Zs} {q : Nat} {fr : Nat → Nat} (h : arN I (m + 17) fr 168) (h2 : ∀ a i, a < 8 → i < 21 → fr (21 * a + i) = enM (bR (zG z) (vA (zX z)) (prM (zG z) none) (tgA (vA (zX z)) q) a i)) : arN I (m + 17) (frM z q) 168 := fun j hj => by
  have h3 := h2 (j / 21) (j % 21) (by omega) (Nat.mod_lt _ (by decide))
  rw [show 21 * (j / 21) + j % 21 = j by omega] at h3
  rw [h j hj, h3]
  exact congrArg nI (if_pos hj).symm
theorem enM_le (x : Option (Nat × Nat)) (h : eb x) : enM x ≤ 100000000 := by
  cases x with
  | none => exact Nat.le_refl _
  | some y =>
    have := h y rfl
    show 1000 * y.1 + y.2 ≤ 100000000
    omega
theorem fl_pathAt_0 {z : Zs} {p q i : Int32} (h : fl_pathAt z p q i = 0) : ((0 ≤ p.toInt ∧ p.toInt < (gP (zG z) : Int)) ∧ (0 ≤ q.toInt ∧ q.toInt < (gP (zG z) : Int))) ∧ 0 ≤ i.toInt := by
  unfold fl_pathAt at h
  split at h
  · cases h
  · next c1 =>
    split at h
    · cases h
    · next c2 => exact ⟨Classical.not_not.mp c1, Classical.not_not.mp c2⟩
theorem fl_pathAt_le (z : Zs) (p q i : Int32) : fl_pathAt z p q i ≤ 2 := by
  unfold fl_pathAt
  split
  · decide
  · split <;> decide
theorem tn_31 (i : Int32) : i.toInt.toNat < 2147483648 := by have := Int32.toInt_lt i; omega
abbrev wMB (x : Wk) : Prop := x.1 < 8 ∧ x.2.1 < 2 ^ 21 ∧ x.2.2 ≤ 100000000
/-- where the loop over the goings stands -/
def gst (g : Nat → Option Wk) (M : Nat) (g0 : Option Nat) (x0 : Wk) (o e : Nat) (gn : Option Nat) (x : Wk) : Prop := (e = 0 ∧ gn = g0 ∧ x = x0 ∧ avO g (M - 0) 0 = avO g (M - o) o) ∨ (e = 1 ∧ ∃ w, avO g (M - 0) 0 = some w ∧ gn = some (10 * (w.1 / 2) + w.1 % 2) ∧ x = w.2)
theorem gst.end {v : Gr} {A : Pa} {fr : Nat → Nat} {X : Wk} {n o e : Nat} {g0 gn : Option Nat} {x0 x : Wk} (h : gaM v A fr X n = (g0, x0)) (h1 : gst (gwM v A fr x0) (2 * gN v) g0 x0 o e gn x) (h2 : 2 * gN v ≤ o ∨ ¬ e = 0) : gaM v A fr X (n + 1) = (gn, x) := by
  rcases h1 with ⟨a1, a2, a3, a4⟩ | ⟨a1, w, a2, a3, a4⟩
  · rw [a2, a3]
    refine gaM_n h ?_
    rw [a4, show 2 * gN v - o = 0 by omega]
    rfl
  · rw [a3, a4]
    exact gaM_s h a2
theorem gst.no {g : Nat → Option Wk} {M o : Nat} {g0 gn : Option Nat} {x0 x : Wk} (h : gst g M g0 x0 o 0 gn x) (h1 : g o = none) (ho : o < M) : gst g M g0 x0 (o + 1) 0 gn x := by
  rcases h with ⟨a1, a2, a3, a4⟩ | ⟨a1, -⟩
  · exact Or.inl ⟨rfl, a2, a3, a4.trans (avO_n h1 ho)⟩
  · cases a1
theorem gst.yes {g : Nat → Option Wk} {M o : Nat} {g0 gn : Option Nat} {x0 x y : Wk} (h : gst g M g0 x0 o 0 gn x) (h1 : g o = some y) (ho : o < M) : gst g M g0 x0 (o + 1) 1 (some (10 * (o / 2) + o % 2)) y := by
  rcases h with ⟨a1, a2, a3, a4⟩ | ⟨a1, -⟩
  · exact Or.inr ⟨rfl, (o, y), a4.trans (avO_s h1 ho), rfl, rfl⟩
  · cases a1
theorem gst.x0 {g : Nat → Option Wk} {M o : Nat} {g0 gn : Option Nat} {x0 x : Wk} (h : gst g M g0 x0 o 0 gn x) : x = x0 := by
  rcases h with ⟨a1, a2, a3, a4⟩ | ⟨a1, -⟩
  · exact a3
  · cases a1

set_option maxHeartbeats 4000000 in
set_option maxRecDepth 100000 in
theorem mt_pathAt (G : mx_G) (I : mx_I) (m : Nat) (z : Zs) (hW : mW G I m z) (p q i : Int32) : mx_CTi yX10_pathAt mX10_pathAt 6 [.ref m, .int p, .int q, .int i] G I (fun rv I1 => I1 m 0 = nI (fl_pathAt z p q i) ∧ mx_fr I I1 m (m + 23) ∧ ((fl_pathAt z p q i) = 0 → rv = some (.int (oI (am_pathAt z p.toInt.toNat q.toInt.toNat i.toInt.toNat))) ∧ mW G I1 m (z)) ∧ (¬ (fl_pathAt z p q i) = 0 → (∃ w9, rv = some (.int w9)) ∧ mW G I1 m z)) := by
  refine mx_start (k := 13) (by decide) rfl rfl (fun h => nomatch h) (Nat.le_of_ble_eq_true rfl) ?_
  show mx_V mX10_pathAt mx_S0 6 0 0 0 [some (.ref m), some (.int p), some (.int q), some (.int i), none, none, none, none, none, none, none, none, none, none, none, none, none] [] G I (fun rv Gz Iz => (fun rv I1 => I1 m 0 = nI (fl_pathAt z p q i) ∧ mx_fr I I1 m (m + 23) ∧ ((fl_pathAt z p q i) = 0 → rv = some (.int (oI (am_pathAt z p.toInt.toNat q.toInt.toNat i.toInt.toNat))) ∧ mW G I1 m (z)) ∧ (¬ (fl_pathAt z p q i) = 0 → (∃ w9, rv = some (.int w9)) ∧ mW G I1 m z)) rv Iz ∧ Gz = G) (fun _ _ _ => False)
  have hs0 : oMD G m := hW.1
  have hs1 := hs0
  have hW9 := hW
  obtain ⟨tgm, -, -, ⟨r_now, t_now, l_now⟩, -⟩ := hs1
  obtain ⟨-, hsz, ⟨hn110, h2, htx, htc⟩, ⟨hvp, hN24⟩, ⟨hc14, h8, hdi⟩, hke⟩ := hW9
  have hN24 : gN (zG z) ≤ 24 := hN24
  have hgw : wfG (zG z) := hvp.1.1
  have hP8 : gP (zG z) ≤ 8 := hgw.1
  have hgb : ∀ s, s < gN (zG z) → gF (zG z) s < 8 ∧ gK (zG z) s < 4 ∧ gT (zG z) s < 8 ∧ 1 ≤ gC (zG z) s ∧ gC (zG z) s ≤ 9 := hgw.2.2
  have hn40 := hvp.2.2.2.1
  have J36 : ∀ (_ : Unit), mx_V mX10_pathAt mx_S0 6 0 0 36 [some (.ref m), some (.int p), some (.int q), some (.int i), none, none, none, none, none, none, none, none, none, none, none, none, none] [.int (nI (fl_pathAt z p q i)), .ref m] G I (fun rv Gz Iz => (fun rv I1 => I1 m 0 = nI (fl_pathAt z p q i) ∧ mx_fr I I1 m (m + 23) ∧ ((fl_pathAt z p q i) = 0 → rv = some (.int (oI (am_pathAt z p.toInt.toNat q.toInt.toNat i.toInt.toNat))) ∧ mW G I1 m (z)) ∧ (¬ (fl_pathAt z p q i) = 0 → (∃ w9, rv = some (.int w9)) ∧ mW G I1 m z)) rv Iz ∧ Gz = G) (fun _ _ _ => False) := by
    intro _ 
    refine mx_callVi (ci := 10) (As := [.int (nI (fl_pathAt z p q i))]) (rest := []) dX10_pathAt_36 (mt_refused G I m hs0 (fl_pathAt z p q i) (Nat.lt_of_le_of_lt (fl_pathAt_le _ _ _ _) (by decide))) km_X10_refused rfl k_1122 k_1124 k_29 (by assumption) rfl rfl (Nat.le_of_ble_eq_true rfl) (by decide) (fun r1 Ir h2 => ?_)
    obtain ⟨e9, er⟩ := h2
    subst e9
    have hr0 : Ir m 0 = nI (fl_pathAt z p q i) := by rw [er, mx_u_at, if_pos ⟨rfl, rfl⟩]
    have hrf : mx_fr I Ir m (m + 23) := by rw [er]; exact (mx_fr.rf _ _ _).u (by omega)
    have hW1 : mW G Ir m z := hW.k (fun b k q => by rw [er, mx_u_at, if_neg (by omega)])
    clear er
    refine mx_ifB_eq 44 dX10_pathAt_39 (by decide) (fun c39 => ?_) (fun c39 => ?_)
    · skip
      have hm0 : fl_pathAt z p q i = 0 := by omega
      have k1 := fl_pathAt_0 hm0
      clear hsz h2 htx htc hvp hdi hke h8
      have hs0 : oMD G m := hW1.1
      have hs1 := hs0
      have hW9 := hW1
      obtain ⟨tgm, -, -, ⟨r_now, t_now, l_now⟩, -, -, -, -, -, -, -, -, -, -, -, -, ⟨r_prices, t_prices, l_prices⟩, ⟨r_far, t_far, l_far⟩, ⟨r_on, t_on, l_on⟩, ⟨r_back, t_back, l_back⟩, -⟩ := hs1
      obtain ⟨-, hsz, ⟨hn110, h2, htx, htc⟩, ⟨hvp, hN24⟩, ⟨hc14, h8, hdi⟩, hke⟩ := hW9
      have hN24 : gN (zG z) ≤ 24 := hN24
      have hgw : wfG (zG z) := hvp.1.1
      have hP8 : gP (zG z) ≤ 8 := hgw.1
      have hgb : ∀ s, s < gN (zG z) → gF (zG z) s < 8 ∧ gK (zG z) s < 4 ∧ gT (zG z) s < 8 ∧ 1 ≤ gC (zG z) s ∧ gC (zG z) s ≤ 9 := hgw.2.2
      have hn40 := hvp.2.2.2.1
      have hpne : p = nI p.toInt.toNat := (mx_nn (k1.1.1.1)).symm
      have hpnb : p.toInt.toNat < gP (zG z) := tn_lt k1.1.1
      have hpn31 : p.toInt.toNat < 2 ^ 31 := tn31 _
      generalize p.toInt.toNat = pn at hpne hpnb hpn31 ⊢
      subst hpne
      have hqne : q = nI q.toInt.toNat := (mx_nn (k1.1.2.1)).symm
      have hqnb : q.toInt.toNat < gP (zG z) := tn_lt k1.1.2
      have hqn31 : q.toInt.toNat < 2 ^ 31 := tn31 _
      generalize q.toInt.toNat = qn at hqne hqnb hqn31 ⊢
      subst hqne
      have hinne : i = nI i.toInt.toNat := (mx_nn (k1.2)).symm
      have hinnb : i.toInt.toNat < 2147483648 := tn_31 _
      have hinn31 : i.toInt.toNat < 2 ^ 31 := tn31 _
      generalize i.toInt.toNat = inn at hinne hinnb hinn31 ⊢
      subst hinne
      have hpn8 : pn < 8 := by omega
      have hqn8 : qn < 8 := by omega
      refine mx_aload_n (i := 0) (hi := rfl) (hl := rfl) (hd := dX10_pathAt_44) ?_
      refine mx_iload_n (i := 1) (hi := rfl) (hl := rfl) (hd := dX10_pathAt_45) ?_
      refine mx_iload_n (i := 2) (hi := rfl) (hl := rfl) (hd := dX10_pathAt_46) ?_
      refine mx_callVi (ci := 10) (As := [.int (nI pn), .int (nI qn)]) (rest := []) dX10_pathAt_47 (mt_bestNow G Ir m hs0 (m + 3) (zX z) (Or.inl rfl) t_now l_now hvp pn qn hpn8 hqn8 rfl) km_X10_bestNow rfl k_1322 k_1324 k_51 (by assumption) rfl rfl (Nat.le_of_ble_eq_true rfl) (by decide) (fun r3 I2 h4 => ?_)
      obtain ⟨e9, hfw, hS2⟩ := h4
      subst e9
      have heb := bM_eb hvp hpn8 qn
      have hg2 : gaF (I2 (m + 3)) (zG z) := hvp.1.c (by omega) (fun k _ => by rw [hS2.1 (m + 3) (by omega)])
      have hA9 : auP (vA (zX z)) := auP_rdF (zX z).2.2 (zX z).2.1
      have hwfp := wfP_vA hvp.2.2.2
      obtain ⟨ha2, hpr2, hon2, hbk2, fr9, hfr9, hfr8⟩ := hfw
      have hfr := frM_ar hfr9 hfr8
      clear hfr9 hfr8
      have hL11 := ha2.1
      have hL20 : pL (vA (zX z)) ≤ 20 := hA9.1
      have hfb : ∀ j, frM z qn j ≤ 100000000 := fun j => by
        unfold frM
        split
        · exact enM_le _ (bR_eb hgw hwfp (fun s hs => prM_9 hgw none s hs) (by omega) (Nat.mod_lt _ (by decide)))
        · exact Nat.zero_le _
      refine mx_istoreE (i := 4) (ls' := [some (.ref m), some (.int (nI pn)), some (.int (nI qn)), some (.int (nI inn)), some (.int (nI (enM (bM z pn qn)))), none, none, none, none, none, none, none, none, none, none, none, none]) (hd := dX10_pathAt_50) (hn := by decide) (hok := rfl) (hls := rfl) ?_
      refine mx_iload (i := 4) (hl := rfl) (hd := dX10_pathAt_52) ?_
      refine mx_ldc (v := (100000000)) k_1222 dX10_pathAt_54 ?_
      refine mx_top (y := nI 100000000) (by decide) ?_
      refine mx_cmpN_ge 69 dX10_pathAt_56 (by decide) (en_31 heb) (by decide) (fun c56 => ?_) (fun c56 => ?_)
      · skip
        
        refine mx_bipush (v := (-9)) (by decide) dX10_pathAt_69 ?_
        exact mx_iret dX10_pathAt_71 rfl rfl (⟨⟨(hS2.2 0 (by omega)).trans hr0, mt_fr hrf hS2.fr, fun _ => ⟨congrArg (fun x => some (Value.int x)) (am_p1 heb c56), hW1.S hS2⟩, fun z9 => absurd hm0 z9⟩, rfl⟩)
      · skip
        refine mx_iload_n (i := 3) (hi := rfl) (hl := rfl) (hd := dX10_pathAt_59) ?_
        refine mx_iload (i := 4) (hl := rfl) (hd := dX10_pathAt_60) ?_
        refine mx_sipushN 1000 dX10_pathAt_62 (by decide) ?_
        refine mx_iremN dX10_pathAt_65 (en_31 heb) (by decide) ?_
        refine mx_cmpN_lt 72 dX10_pathAt_66 (by decide) (by omega) (Nat.lt_trans (Nat.mod_lt _ (by decide)) (by decide : 1000 < 2 ^ 31)) (fun c66 => ?_) (fun c66 => ?_)
        · skip
          refine mx_iconstN 1 dX10_pathAt_72 (by decide) ?_
          refine mx_istoreE (i := 5) (ls' := [some (.ref m), some (.int (nI pn)), some (.int (nI qn)), some (.int (nI inn)), some (.int (nI (enM (bM z pn qn)))), some (.int (nI 1)), none, none, none, none, none, none, none, none, none, none, none]) (hd := dX10_pathAt_73) (hn := by decide) (hok := rfl) (hls := rfl) ?_
          refine mx_iload_n (i := 1) (hi := rfl) (hl := rfl) (hd := dX10_pathAt_75) ?_
          refine mx_istoreE (i := 6) (ls' := [some (.ref m), some (.int (nI pn)), some (.int (nI qn)), some (.int (nI inn)), some (.int (nI (enM (bM z pn qn)))), some (.int (nI 1)), some (.int (nI pn)), none, none, none, none, none, none, none, none, none, none]) (hd := dX10_pathAt_76) (hn := by decide) (hok := rfl) (hls := rfl) ?_
          refine mx_bipush (v := (-9)) (by decide) dX10_pathAt_78 ?_
          refine mx_istoreE (i := 7) (ls' := [some (.ref m), some (.int (nI pn)), some (.int (nI qn)), some (.int (nI inn)), some (.int (nI (enM (bM z pn qn)))), some (.int (nI 1)), some (.int (nI pn)), some (.int (-9)), none, none, none, none, none, none, none, none, none]) (hd := dX10_pathAt_80) (hn := by decide) (hok := rfl) (hls := rfl) ?_
          have L85 : ∀ (fq : Nat) (k : Nat) (g0 : Option Nat) (x0 : Wk), inn + 1 - k < fq → (k ≤ inn + 1) → (gaM (zG z) (vA (zX z)) (frM z qn) (pn, 1, enM (bM z pn qn)) k = (g0, x0)) → (wMB x0) → mx_V mX10_pathAt mx_S0 6 0 0 85 [some (.ref m), some (.int (nI pn)), some (.int (nI qn)), some (.int (nI inn)), some (.int (nI x0.2.2)), some (.int (nI x0.2.1)), some (.int (nI x0.1)), some (.int (oI g0)), some (.int (nI k)), none, none, none, none, none, none, none, none] [] G I2 (fun rv Gz Iz => (fun rv I1 => I1 m 0 = nI (fl_pathAt z (nI pn) (nI qn) (nI inn)) ∧ mx_fr I I1 m (m + 23) ∧ ((fl_pathAt z (nI pn) (nI qn) (nI inn)) = 0 → rv = some (.int (oI (am_pathAt z pn qn inn))) ∧ mW G I1 m (z)) ∧ (¬ (fl_pathAt z (nI pn) (nI qn) (nI inn)) = 0 → (∃ w9, rv = some (.int w9)) ∧ mW G I1 m z)) rv Iz ∧ Gz = G) (fun _ _ _ => False) := by
            intro fq
            induction fq with
            | zero => intro k g0 x0 hfu; exact absurd hfu (Nat.not_lt_zero _)
            | succ fq ih =>
              intro k g0 x0 hfu hk hx hxb0
              have L97 : ∀ (fq : Nat) (o e : Nat) (gn : Option Nat) (x : Wk), 2 * gN (zG z) - o < fq → (k ≤ inn) → (o ≤ 2 * gN (zG z)) → (gst (gwM (zG z) (vA (zX z)) (frM z qn) x0) (2 * gN (zG z)) g0 x0 o e gn x) → (wMB x) → (e < 2) → mx_V mX10_pathAt mx_S0 6 0 0 97 [some (.ref m), some (.int (nI pn)), some (.int (nI qn)), some (.int (nI inn)), some (.int (nI x.2.2)), some (.int (nI x.2.1)), some (.int (nI x.1)), some (.int (oI gn)), some (.int (nI k)), some (.int (nI e)), some (.int (nI o)), none, none, none, none, none, none] [] G I2 (fun rv Gz Iz => (fun rv I1 => I1 m 0 = nI (fl_pathAt z (nI pn) (nI qn) (nI inn)) ∧ mx_fr I I1 m (m + 23) ∧ ((fl_pathAt z (nI pn) (nI qn) (nI inn)) = 0 → rv = some (.int (oI (am_pathAt z pn qn inn))) ∧ mW G I1 m (z)) ∧ (¬ (fl_pathAt z (nI pn) (nI qn) (nI inn)) = 0 → (∃ w9, rv = some (.int w9)) ∧ mW G I1 m z)) rv Iz ∧ Gz = G) (fun _ _ _ => False) := by
                intro fq
                induction fq with
                | zero => intro o e gn x hfu; exact absurd hfu (Nat.not_lt_zero _)
                | succ fq ih2 =>
                  intro o e gn x hfu hk8 ho hgs hxb he2
                  refine mx_iload (i := 10) (hl := rfl) (hd := dX10_pathAt_97) ?_
                  refine mx_iconstN 2 dX10_pathAt_99 (by decide) ?_
                  refine mx_aload_n (i := 0) (hi := rfl) (hl := rfl) (hd := dX10_pathAt_100) ?_
                  refine mx_getR (ci := 10) (k := 5) (r := (m + 3)) dX10_pathAt_101 k_1018 (by decide) rfl (by assumption) (by assumption) (by omega) ?_
                  refine mx_iconstN 1 dX10_pathAt_104 (by decide) ?_
                  refine mx_ialdV 1 (nI (gN (zG z))) dX10_pathAt_105 (by assumption) ⟨rfl, by omega, by omega⟩ hg2.2.2.1 ?_
                  refine mx_imulN dX10_pathAt_106 ?_
                  refine mx_cmpN_ge 292 dX10_pathAt_107 (by decide) (by omega) (by omega) (fun c107 => ?_) (fun c107 => ?_)
                  · skip
                    
                    refine mx_iincE (i := 8) (ls' := [some (.ref m), some (.int (nI pn)), some (.int (nI qn)), some (.int (nI inn)), some (.int (nI x.2.2)), some (.int (nI x.2.1)), some (.int (nI x.1)), some (.int (oI gn)), some (.int (nI (k + 1))), some (.int (nI e)), some (.int (nI o)), none, none, none, none, none, none]) 1 dX10_pathAt_292 rfl (by decide) (by decide) rfl rfl ?_
                    refine mx_goto (tgt := 85) dX10_pathAt_295 (by decide) ?_
                    refine mx_leS (ls' := [some (.ref m), some (.int (nI pn)), some (.int (nI qn)), some (.int (nI inn)), some (.int (nI x.2.2)), some (.int (nI x.2.1)), some (.int (nI x.1)), some (.int (oI gn)), some (.int (nI (k + 1))), none, none, none, none, none, none, none, none]) ⟨rfl, rfl, rfl, rfl, rfl, rfl, rfl, rfl, rfl, trivial⟩ ?_
                    exact ih (k + 1) gn x (by omega) (by omega) (gst.end hx hgs (Or.inl c107)) hxb
                  · skip
                    refine mx_iload (i := 9) (hl := rfl) (hd := dX10_pathAt_110) ?_
                    refine mx_ifN_ne 292 dX10_pathAt_112 (by decide) (by omega) (fun c112 => ?_) (fun c112 => ?_)
                    · skip
                      
                      refine mx_iincE (i := 8) (ls' := [some (.ref m), some (.int (nI pn)), some (.int (nI qn)), some (.int (nI inn)), some (.int (nI x.2.2)), some (.int (nI x.2.1)), some (.int (nI x.1)), some (.int (oI gn)), some (.int (nI (k + 1))), some (.int (nI e)), some (.int (nI o)), none, none, none, none, none, none]) 1 dX10_pathAt_292 rfl (by decide) (by decide) rfl rfl ?_
                      refine mx_goto (tgt := 85) dX10_pathAt_295 (by decide) ?_
                      refine mx_leS (ls' := [some (.ref m), some (.int (nI pn)), some (.int (nI qn)), some (.int (nI inn)), some (.int (nI x.2.2)), some (.int (nI x.2.1)), some (.int (nI x.1)), some (.int (oI gn)), some (.int (nI (k + 1))), none, none, none, none, none, none, none, none]) ⟨rfl, rfl, rfl, rfl, rfl, rfl, rfl, rfl, rfl, trivial⟩ ?_
                      exact ih (k + 1) gn x (by omega) (by omega) (gst.end hx hgs (Or.inr c112)) hxb
                    · skip
                      have he0 : e = 0 := c112
                      subst he0
                      have hxx : x = x0 := hgs.x0
                      subst hxx
                      obtain ⟨sn, hsn⟩ : ∃ sn, o / 2 = sn := ⟨_, rfl⟩
                      have hsN : sn < gN (zG z) := by omega
                      have hbs := hgb sn hsN
                      refine mx_iload (i := 10) (hl := rfl) (hd := dX10_pathAt_115) ?_
                      refine mx_iconstN 2 dX10_pathAt_117 (by decide) ?_
                      refine mx_idivN dX10_pathAt_118 (by omega) (by decide) ?_
                      refine mx_top (y := nI sn) (congrArg nI hsn) ?_
                      refine mx_istoreE (i := 11) (ls' := [some (.ref m), some (.int (nI pn)), some (.int (nI qn)), some (.int (nI inn)), some (.int (nI x.2.2)), some (.int (nI x.2.1)), some (.int (nI x.1)), some (.int (oI gn)), some (.int (nI k)), some (.int (nI 0)), some (.int (nI o)), some (.int (nI sn)), none, none, none, none, none]) (hd := dX10_pathAt_119) (hn := by decide) (hok := rfl) (hls := rfl) ?_
                      refine mx_aload_n (i := 0) (hi := rfl) (hl := rfl) (hd := dX10_pathAt_121) ?_
                      refine mx_getR (ci := 10) (k := 5) (r := (m + 3)) dX10_pathAt_122 k_1018 (by decide) rfl (by assumption) (by assumption) (by omega) ?_
                      refine mx_iload (i := 11) (hl := rfl) (hd := dX10_pathAt_125) ?_
                      refine mx_callSp (As := [.int (nI sn)]) (rest := [.ref (m + 3)]) dX10_pathAt_127 (mt_at G I2 sn) km_X10_at rfl k_1180 k_1181 rfl rfl (Nat.le_of_ble_eq_true rfl) (by decide) ?_
                      refine mx_iload (i := 10) (hl := rfl) (hd := dX10_pathAt_130) ?_
                      refine mx_iconstN 2 dX10_pathAt_132 (by decide) ?_
                      refine mx_iremN dX10_pathAt_133 (by omega) (by decide) ?_
                      refine mx_ifN_ne 141 dX10_pathAt_134 (by decide) (by omega) (fun c134 => ?_) (fun c134 => ?_)
                      · skip
                        have hgw9 := gwM_1 (v := zG z) (A := vA (zX z)) (fr := frM z qn) (x := x) c134 hsn
                        refine mx_iconstN 2 dX10_pathAt_141 (by decide) ?_
                        refine mx_iaddN dX10_pathAt_142 ?_
                        refine mx_ialdV (3 + 4 * sn + 2) (nI (gT (zG z) sn)) dX10_pathAt_143 (by assumption) ⟨rfl, by rw [l_now]; omega, by rw [l_now]; decide⟩ (hg2.2.2.2 sn (by omega)).2.2.1 ?_
                        refine mx_istoreE (i := 12) (ls' := [some (.ref m), some (.int (nI pn)), some (.int (nI qn)), some (.int (nI inn)), some (.int (nI x.2.2)), some (.int (nI x.2.1)), some (.int (nI x.1)), some (.int (oI gn)), some (.int (nI k)), some (.int (nI 0)), some (.int (nI o)), some (.int (nI sn)), some (.int (nI (gT (zG z) sn))), none, none, none, none]) (hd := dX10_pathAt_144) (hn := by decide) (hok := rfl) (hls := rfl) ?_
                        refine mx_aload_n (i := 0) (hi := rfl) (hl := rfl) (hd := dX10_pathAt_146) ?_
                        refine mx_getR (ci := 10) (k := 5) (r := (m + 3)) dX10_pathAt_147 k_1018 (by decide) rfl (by assumption) (by assumption) (by omega) ?_
                        refine mx_iload (i := 11) (hl := rfl) (hd := dX10_pathAt_150) ?_
                        refine mx_callSp (As := [.int (nI sn)]) (rest := [.ref (m + 3)]) dX10_pathAt_152 (mt_at G I2 sn) km_X10_at rfl k_1180 k_1181 rfl rfl (Nat.le_of_ble_eq_true rfl) (by decide) ?_
                        refine mx_iload (i := 10) (hl := rfl) (hd := dX10_pathAt_155) ?_
                        refine mx_iconstN 2 dX10_pathAt_157 (by decide) ?_
                        refine mx_iremN dX10_pathAt_158 (by omega) (by decide) ?_
                        refine mx_ifN_ne 166 dX10_pathAt_159 (by decide) (by omega) (fun c159 => ?_) (fun c159 => ?_)
                        · skip
                          
                          refine mx_iconstN 0 dX10_pathAt_166 (by decide) ?_
                          refine mx_iaddN dX10_pathAt_167 ?_
                          refine mx_ialdV (3 + 4 * sn) (nI (gF (zG z) sn)) dX10_pathAt_168 (by assumption) ⟨rfl, by rw [l_now]; omega, by rw [l_now]; decide⟩ (hg2.2.2.2 sn (by omega)).1 ?_
                          refine mx_istoreE (i := 13) (ls' := [some (.ref m), some (.int (nI pn)), some (.int (nI qn)), some (.int (nI inn)), some (.int (nI x.2.2)), some (.int (nI x.2.1)), some (.int (nI x.1)), some (.int (oI gn)), some (.int (nI k)), some (.int (nI 0)), some (.int (nI o)), some (.int (nI sn)), some (.int (nI (gT (zG z) sn))), some (.int (nI (gF (zG z) sn))), none, none, none]) (hd := dX10_pathAt_169) (hn := by decide) (hok := rfl) (hls := rfl) ?_
                          refine mx_aload_n (i := 0) (hi := rfl) (hl := rfl) (hd := dX10_pathAt_171) ?_
                          refine mx_getR (ci := 10) (k := 5) (r := (m + 3)) dX10_pathAt_172 k_1018 (by decide) rfl (by assumption) (by assumption) (by omega) ?_
                          refine mx_iload (i := 11) (hl := rfl) (hd := dX10_pathAt_175) ?_
                          refine mx_callSp (As := [.int (nI sn)]) (rest := [.ref (m + 3)]) dX10_pathAt_177 (mt_at G I2 sn) km_X10_at rfl k_1180 k_1181 rfl rfl (Nat.le_of_ble_eq_true rfl) (by decide) ?_
                          refine mx_iconstN 1 dX10_pathAt_180 (by decide) ?_
                          refine mx_iaddN dX10_pathAt_181 ?_
                          refine mx_ialdV ((3 + 4 * sn) + 1) (nI (gK (zG z) sn)) dX10_pathAt_182 (by assumption) ⟨rfl, by omega, by omega⟩ (hg2.2.2.2 sn (by omega)).2.1 ?_
                          refine mx_istoreE (i := 14) (ls' := [some (.ref m), some (.int (nI pn)), some (.int (nI qn)), some (.int (nI inn)), some (.int (nI x.2.2)), some (.int (nI x.2.1)), some (.int (nI x.1)), some (.int (oI gn)), some (.int (nI k)), some (.int (nI 0)), some (.int (nI o)), some (.int (nI sn)), some (.int (nI (gT (zG z) sn))), some (.int (nI (gF (zG z) sn))), some (.int (nI (gK (zG z) sn))), none, none]) (hd := dX10_pathAt_183) (hn := by decide) (hok := rfl) (hls := rfl) ?_
                          refine mx_iload (i := 4) (hl := rfl) (hd := dX10_pathAt_185) ?_
                          refine mx_sipushN 1000 dX10_pathAt_187 (by decide) ?_
                          refine mx_aload_n (i := 0) (hi := rfl) (hl := rfl) (hd := dX10_pathAt_190) ?_
                          refine mx_getR (ci := 10) (k := 23) (r := (m + 16)) dX10_pathAt_191 k_1036 (by decide) rfl (by assumption) (by assumption) (by omega) ?_
                          refine mx_iload (i := 11) (hl := rfl) (hd := dX10_pathAt_194) ?_
                          refine mx_ialdV sn (nI (gC (zG z) sn)) dX10_pathAt_196 (by assumption) ⟨rfl, by rw [l_prices]; omega, by rw [l_prices]; decide⟩ ((hpr2 _ hsN).trans (congrArg nI (congrFun (prM_0 (zG z)) _))) ?_
                          refine mx_imulN dX10_pathAt_197 ?_
                          refine mx_isub dX10_pathAt_198 ?_
                          refine mx_iconstN 1 dX10_pathAt_199 (by decide) ?_
                          refine mx_isub dX10_pathAt_200 ?_
                          refine mx_istoreE (i := 15) (ls' := [some (.ref m), some (.int (nI pn)), some (.int (nI qn)), some (.int (nI inn)), some (.int (nI x.2.2)), some (.int (nI x.2.1)), some (.int (nI x.1)), some (.int (oI gn)), some (.int (nI k)), some (.int (nI 0)), some (.int (nI o)), some (.int (nI sn)), some (.int (nI (gT (zG z) sn))), some (.int (nI (gF (zG z) sn))), some (.int (nI (gK (zG z) sn))), some (.int (((nI x.2.2) - (nI (1000 * (gC (zG z) sn)))) - (nI 1))), none]) (hd := dX10_pathAt_201) (hn := by decide) (hok := rfl) (hls := rfl) ?_
                          refine mx_iload (i := 12) (hl := rfl) (hd := dX10_pathAt_203) ?_
                          refine mx_iload (i := 6) (hl := rfl) (hd := dX10_pathAt_205) ?_
                          refine mx_cmpN_ne 251 dX10_pathAt_207 (by decide) (by have := hg2.1.2.2 sn (by omega); omega) (by omega) (fun c207 => ?_) (fun c207 => ?_)
                          · skip
                            
                            refine mx_iconstN 0 dX10_pathAt_251 (by decide) ?_
                            refine mx_istoreE (i := 16) (ls' := [some (.ref m), some (.int (nI pn)), some (.int (nI qn)), some (.int (nI inn)), some (.int (nI x.2.2)), some (.int (nI x.2.1)), some (.int (nI x.1)), some (.int (oI gn)), some (.int (nI k)), some (.int (nI 0)), some (.int (nI o)), some (.int (nI sn)), some (.int (nI (gT (zG z) sn))), some (.int (nI (gF (zG z) sn))), some (.int (nI (gK (zG z) sn))), some (.int (((nI x.2.2) - (nI (1000 * (gC (zG z) sn)))) - (nI 1))), some (.int (nI 0))]) (hd := dX10_pathAt_252) (hn := by decide) (hok := rfl) (hls := rfl) ?_
                            refine mx_iload (i := 16) (hl := rfl) (hd := dX10_pathAt_254) ?_
                            refine mx_if0_eq 286 dX10_pathAt_256 (by decide) ?_
                            refine mx_iincE (i := 10) (ls' := [some (.ref m), some (.int (nI pn)), some (.int (nI qn)), some (.int (nI inn)), some (.int (nI x.2.2)), some (.int (nI x.2.1)), some (.int (nI x.1)), some (.int (oI gn)), some (.int (nI k)), some (.int (nI 0)), some (.int (nI (o + 1))), some (.int (nI sn)), some (.int (nI (gT (zG z) sn))), some (.int (nI (gF (zG z) sn))), some (.int (nI (gK (zG z) sn))), some (.int (((nI x.2.2) - (nI (1000 * (gC (zG z) sn)))) - (nI 1))), some (.int (nI 0))]) 1 dX10_pathAt_286 rfl (by decide) (by decide) rfl rfl ?_
                            refine mx_goto (tgt := 97) dX10_pathAt_289 (by decide) ?_
                            refine mx_leS (ls' := [some (.ref m), some (.int (nI pn)), some (.int (nI qn)), some (.int (nI inn)), some (.int (nI x.2.2)), some (.int (nI x.2.1)), some (.int (nI x.1)), some (.int (oI gn)), some (.int (nI k)), some (.int (nI 0)), some (.int (nI (o + 1))), none, none, none, none, none, none]) ⟨rfl, rfl, rfl, rfl, rfl, rfl, rfl, rfl, rfl, rfl, rfl, trivial⟩ ?_
                            exact ih2 (o + 1) 0 gn x (by omega) hk8 (by omega) (hgs.no (by rw [hgw9, if_neg c207]) (by omega)) hxb (by decide)
                          · skip
                            refine mx_aload_n (i := 0) (hi := rfl) (hl := rfl) (hd := dX10_pathAt_210) ?_
                            refine mx_aload_n (i := 0) (hi := rfl) (hl := rfl) (hd := dX10_pathAt_211) ?_
                            refine mx_iload (i := 5) (hl := rfl) (hd := dX10_pathAt_212) ?_
                            refine mx_iload (i := 10) (hl := rfl) (hd := dX10_pathAt_214) ?_
                            refine mx_iconstN 2 dX10_pathAt_216 (by decide) ?_
                            refine mx_iremN dX10_pathAt_217 (by omega) (by decide) ?_
                            refine mx_ifN_ne 231 dX10_pathAt_218 (by decide) (by omega) (fun c218 => ?_) (fun c218 => ?_)
                            · skip
                              
                              refine mx_aload_n (i := 0) (hi := rfl) (hl := rfl) (hd := dX10_pathAt_231) ?_
                              refine mx_getR (ci := 10) (k := 26) (r := (m + 19)) dX10_pathAt_232 k_1039 (by decide) rfl (by assumption) (by assumption) (by omega) ?_
                              refine mx_iload (i := 14) (hl := rfl) (hd := dX10_pathAt_235) ?_
                              refine mx_ialdV (gK (zG z) sn) (nI (pEn (vA (zX z)) 1 (gK (zG z) sn))) dX10_pathAt_237 (by assumption) ⟨rfl, by rw [l_back]; exact hbs.2.1, by rw [l_back]; decide⟩ (hbk2 _ (hgb _ hsN).2.1) ?_
                              refine mx_callVp (ci := 10) (As := [.int (nI x.2.1), .int (nI (pEn (vA (zX z)) 1 (gK (zG z) sn)))]) (rest := [.ref m]) dX10_pathAt_238 (mt_behind G I2 m hs0 (vA (zX z)) ha2 hA9 x.2.1 (pEn (vA (zX z)) 1 (gK (zG z) sn)) (by omega)) km_X10_behind rfl k_1334 k_1336 k_52 (by assumption) rfl rfl (Nat.le_of_ble_eq_true rfl) (by decide) ?_
                              refine mx_iload (i := 13) (hl := rfl) (hd := dX10_pathAt_241) ?_
                              refine mx_iload (i := 15) (hl := rfl) (hd := dX10_pathAt_243) ?_
                              refine mx_callVp (ci := 10) (As := [.int (nI (pFol (vA (zX z)) x.2.1 &&& pEn (vA (zX z)) 1 (gK (zG z) sn))), .int (nI (gF (zG z) sn)), .int (((nI x.2.2) - (nI (1000 * (gC (zG z) sn)))) - (nI 1))]) (rest := []) dX10_pathAt_245 (mt_soFar G I2 m hs0 (pL (vA (zX z))) hL11 hL20 (frM z qn) hfr hfb (pFol (vA (zX z)) x.2.1 &&& pEn (vA (zX z)) 1 (gK (zG z) sn)) (gF (zG z) sn) (1000 * gC (zG z) sn + 1) x.2.2 (nI x.2.2 - nI (1000 * gC (zG z) sn) - nI 1) (Nat.lt_trans (mx_and_lt (pFol_lt hwfp _)) (by decide)) (by omega) (fun r hr => mx_lfM hr (by omega) hxb.2.2)) km_X10_soFar rfl k_1338 k_1340 k_53 (by assumption) rfl rfl (Nat.le_of_ble_eq_true rfl) (by decide) ?_
                              refine mx_goto (tgt := 252) dX10_pathAt_248 (by decide) ?_
                              refine mx_istoreE (i := 16) (ls' := [some (.ref m), some (.int (nI pn)), some (.int (nI qn)), some (.int (nI inn)), some (.int (nI x.2.2)), some (.int (nI x.2.1)), some (.int (nI x.1)), some (.int (oI gn)), some (.int (nI k)), some (.int (nI 0)), some (.int (nI o)), some (.int (nI sn)), some (.int (nI (gT (zG z) sn))), some (.int (nI (gF (zG z) sn))), some (.int (nI (gK (zG z) sn))), some (.int (((nI x.2.2) - (nI (1000 * (gC (zG z) sn)))) - (nI 1))), some (.int (nI (lvM (frM z qn) (gF (zG z) sn) (pFol (vA (zX z)) x.2.1 &&& pEn (vA (zX z)) 1 (gK (zG z) sn)) (1000 * gC (zG z) sn + 1) x.2.2 (pL (vA (zX z)) + 1))))]) (hd := dX10_pathAt_252) (hn := by decide) (hok := rfl) (hls := rfl) ?_
                              refine mx_iload (i := 16) (hl := rfl) (hd := dX10_pathAt_254) ?_
                              refine mx_ifN_eq 286 dX10_pathAt_256 (by decide) (Nat.lt_trans (lvM_lt _ (by omega)) (by decide)) (fun c256 => ?_) (fun c256 => ?_)
                              · skip
                                refine mx_iincE (i := 10) (ls' := [some (.ref m), some (.int (nI pn)), some (.int (nI qn)), some (.int (nI inn)), some (.int (nI x.2.2)), some (.int (nI x.2.1)), some (.int (nI x.1)), some (.int (oI gn)), some (.int (nI k)), some (.int (nI 0)), some (.int (nI (o + 1))), some (.int (nI sn)), some (.int (nI (gT (zG z) sn))), some (.int (nI (gF (zG z) sn))), some (.int (nI (gK (zG z) sn))), some (.int (((nI x.2.2) - (nI (1000 * (gC (zG z) sn)))) - (nI 1))), some (.int (nI (lvM (frM z qn) (gF (zG z) sn) (pFol (vA (zX z)) x.2.1 &&& pEn (vA (zX z)) 1 (gK (zG z) sn)) (1000 * gC (zG z) sn + 1) x.2.2 (pL (vA (zX z)) + 1))))]) 1 dX10_pathAt_286 rfl (by decide) (by decide) rfl rfl ?_
                                refine mx_goto (tgt := 97) dX10_pathAt_289 (by decide) ?_
                                refine mx_leS (ls' := [some (.ref m), some (.int (nI pn)), some (.int (nI qn)), some (.int (nI inn)), some (.int (nI x.2.2)), some (.int (nI x.2.1)), some (.int (nI x.1)), some (.int (oI gn)), some (.int (nI k)), some (.int (nI 0)), some (.int (nI (o + 1))), none, none, none, none, none, none]) ⟨rfl, rfl, rfl, rfl, rfl, rfl, rfl, rfl, rfl, rfl, rfl, trivial⟩ ?_
                                exact ih2 (o + 1) 0 gn x (by omega) hk8 (by omega) (hgs.no (by rw [hgw9, if_pos c207, if_pos c256]) (by omega)) hxb (by decide)
                              · skip
                                have hle : 1000 * gC (zG z) sn + 1 ≤ x.2.2 := (Nat.lt_or_ge x.2.2 (1000 * gC (zG z) sn + 1)).elim (fun q9 => absurd (lvM_le q9 _) c256) id
                                have hle1 : 1000 * gC (zG z) sn ≤ x.2.2 := by omega
                                have hle2 : 1 ≤ x.2.2 - 1000 * gC (zG z) sn := by omega
                                refine mx_iconstN 1 dX10_pathAt_259 (by decide) ?_
                                refine mx_istoreE (i := 9) (ls' := [some (.ref m), some (.int (nI pn)), some (.int (nI qn)), some (.int (nI inn)), some (.int (nI x.2.2)), some (.int (nI x.2.1)), some (.int (nI x.1)), some (.int (oI gn)), some (.int (nI k)), some (.int (nI 1)), some (.int (nI o)), some (.int (nI sn)), some (.int (nI (gT (zG z) sn))), some (.int (nI (gF (zG z) sn))), some (.int (nI (gK (zG z) sn))), some (.int (((nI x.2.2) - (nI (1000 * (gC (zG z) sn)))) - (nI 1))), some (.int (nI (lvM (frM z qn) (gF (zG z) sn) (pFol (vA (zX z)) x.2.1 &&& pEn (vA (zX z)) 1 (gK (zG z) sn)) (1000 * gC (zG z) sn + 1) x.2.2 (pL (vA (zX z)) + 1))))]) (hd := dX10_pathAt_260) (hn := by decide) (hok := rfl) (hls := rfl) ?_
                                refine mx_bipushN 10 dX10_pathAt_262 (by decide) ?_
                                refine mx_iload (i := 11) (hl := rfl) (hd := dX10_pathAt_264) ?_
                                refine mx_imulN dX10_pathAt_266 ?_
                                refine mx_iload (i := 10) (hl := rfl) (hd := dX10_pathAt_267) ?_
                                refine mx_iconstN 2 dX10_pathAt_269 (by decide) ?_
                                refine mx_iremN dX10_pathAt_270 (by omega) (by decide) ?_
                                refine mx_iaddN dX10_pathAt_271 ?_
                                refine mx_top (y := oI (some (10 * (o / 2) + o % 2))) (by show nI (10 * sn + o % 2) = nI (10 * (o / 2) + o % 2); rw [hsn]) ?_
                                refine mx_istoreE (i := 7) (ls' := [some (.ref m), some (.int (nI pn)), some (.int (nI qn)), some (.int (nI inn)), some (.int (nI x.2.2)), some (.int (nI x.2.1)), some (.int (nI x.1)), some (.int (oI (some (10 * (o / 2) + o % 2)))), some (.int (nI k)), some (.int (nI 1)), some (.int (nI o)), some (.int (nI sn)), some (.int (nI (gT (zG z) sn))), some (.int (nI (gF (zG z) sn))), some (.int (nI (gK (zG z) sn))), some (.int (((nI x.2.2) - (nI (1000 * (gC (zG z) sn)))) - (nI 1))), some (.int (nI (lvM (frM z qn) (gF (zG z) sn) (pFol (vA (zX z)) x.2.1 &&& pEn (vA (zX z)) 1 (gK (zG z) sn)) (1000 * gC (zG z) sn + 1) x.2.2 (pL (vA (zX z)) + 1))))]) (hd := dX10_pathAt_272) (hn := by decide) (hok := rfl) (hls := rfl) ?_
                                refine mx_iload (i := 16) (hl := rfl) (hd := dX10_pathAt_274) ?_
                                refine mx_istoreE (i := 5) (ls' := [some (.ref m), some (.int (nI pn)), some (.int (nI qn)), some (.int (nI inn)), some (.int (nI x.2.2)), some (.int (nI (lvM (frM z qn) (gF (zG z) sn) (pFol (vA (zX z)) x.2.1 &&& pEn (vA (zX z)) 1 (gK (zG z) sn)) (1000 * gC (zG z) sn + 1) x.2.2 (pL (vA (zX z)) + 1)))), some (.int (nI x.1)), some (.int (oI (some (10 * (o / 2) + o % 2)))), some (.int (nI k)), some (.int (nI 1)), some (.int (nI o)), some (.int (nI sn)), some (.int (nI (gT (zG z) sn))), some (.int (nI (gF (zG z) sn))), some (.int (nI (gK (zG z) sn))), some (.int (((nI x.2.2) - (nI (1000 * (gC (zG z) sn)))) - (nI 1))), some (.int (nI (lvM (frM z qn) (gF (zG z) sn) (pFol (vA (zX z)) x.2.1 &&& pEn (vA (zX z)) 1 (gK (zG z) sn)) (1000 * gC (zG z) sn + 1) x.2.2 (pL (vA (zX z)) + 1))))]) (hd := dX10_pathAt_276) (hn := by decide) (hok := rfl) (hls := rfl) ?_
                                refine mx_iload (i := 13) (hl := rfl) (hd := dX10_pathAt_278) ?_
                                refine mx_istoreE (i := 6) (ls' := [some (.ref m), some (.int (nI pn)), some (.int (nI qn)), some (.int (nI inn)), some (.int (nI x.2.2)), some (.int (nI (lvM (frM z qn) (gF (zG z) sn) (pFol (vA (zX z)) x.2.1 &&& pEn (vA (zX z)) 1 (gK (zG z) sn)) (1000 * gC (zG z) sn + 1) x.2.2 (pL (vA (zX z)) + 1)))), some (.int (nI (gF (zG z) sn))), some (.int (oI (some (10 * (o / 2) + o % 2)))), some (.int (nI k)), some (.int (nI 1)), some (.int (nI o)), some (.int (nI sn)), some (.int (nI (gT (zG z) sn))), some (.int (nI (gF (zG z) sn))), some (.int (nI (gK (zG z) sn))), some (.int (((nI x.2.2) - (nI (1000 * (gC (zG z) sn)))) - (nI 1))), some (.int (nI (lvM (frM z qn) (gF (zG z) sn) (pFol (vA (zX z)) x.2.1 &&& pEn (vA (zX z)) 1 (gK (zG z) sn)) (1000 * gC (zG z) sn + 1) x.2.2 (pL (vA (zX z)) + 1))))]) (hd := dX10_pathAt_280) (hn := by decide) (hok := rfl) (hls := rfl) ?_
                                refine mx_iload (i := 15) (hl := rfl) (hd := dX10_pathAt_282) ?_
                                refine mx_top (y := nI (x.2.2 - (1000 * gC (zG z) sn + 1))) (by rw [nI_sub hle1, nI_sub hle2, Nat.sub_sub]) ?_
                                refine mx_istoreE (i := 4) (ls' := [some (.ref m), some (.int (nI pn)), some (.int (nI qn)), some (.int (nI inn)), some (.int (nI (x.2.2 - (1000 * gC (zG z) sn + 1)))), some (.int (nI (lvM (frM z qn) (gF (zG z) sn) (pFol (vA (zX z)) x.2.1 &&& pEn (vA (zX z)) 1 (gK (zG z) sn)) (1000 * gC (zG z) sn + 1) x.2.2 (pL (vA (zX z)) + 1)))), some (.int (nI (gF (zG z) sn))), some (.int (oI (some (10 * (o / 2) + o % 2)))), some (.int (nI k)), some (.int (nI 1)), some (.int (nI o)), some (.int (nI sn)), some (.int (nI (gT (zG z) sn))), some (.int (nI (gF (zG z) sn))), some (.int (nI (gK (zG z) sn))), some (.int (((nI x.2.2) - (nI (1000 * (gC (zG z) sn)))) - (nI 1))), some (.int (nI (lvM (frM z qn) (gF (zG z) sn) (pFol (vA (zX z)) x.2.1 &&& pEn (vA (zX z)) 1 (gK (zG z) sn)) (1000 * gC (zG z) sn + 1) x.2.2 (pL (vA (zX z)) + 1))))]) (hd := dX10_pathAt_284) (hn := by decide) (hok := rfl) (hls := rfl) ?_
                                refine mx_iincE (i := 10) (ls' := [some (.ref m), some (.int (nI pn)), some (.int (nI qn)), some (.int (nI inn)), some (.int (nI (x.2.2 - (1000 * gC (zG z) sn + 1)))), some (.int (nI (lvM (frM z qn) (gF (zG z) sn) (pFol (vA (zX z)) x.2.1 &&& pEn (vA (zX z)) 1 (gK (zG z) sn)) (1000 * gC (zG z) sn + 1) x.2.2 (pL (vA (zX z)) + 1)))), some (.int (nI (gF (zG z) sn))), some (.int (oI (some (10 * (o / 2) + o % 2)))), some (.int (nI k)), some (.int (nI 1)), some (.int (nI (o + 1))), some (.int (nI sn)), some (.int (nI (gT (zG z) sn))), some (.int (nI (gF (zG z) sn))), some (.int (nI (gK (zG z) sn))), some (.int (((nI x.2.2) - (nI (1000 * (gC (zG z) sn)))) - (nI 1))), some (.int (nI (lvM (frM z qn) (gF (zG z) sn) (pFol (vA (zX z)) x.2.1 &&& pEn (vA (zX z)) 1 (gK (zG z) sn)) (1000 * gC (zG z) sn + 1) x.2.2 (pL (vA (zX z)) + 1))))]) 1 dX10_pathAt_286 rfl (by decide) (by decide) rfl rfl ?_
                                refine mx_goto (tgt := 97) dX10_pathAt_289 (by decide) ?_
                                refine mx_leS (ls' := [some (.ref m), some (.int (nI pn)), some (.int (nI qn)), some (.int (nI inn)), some (.int (nI (x.2.2 - (1000 * gC (zG z) sn + 1)))), some (.int (nI (lvM (frM z qn) (gF (zG z) sn) (pFol (vA (zX z)) x.2.1 &&& pEn (vA (zX z)) 1 (gK (zG z) sn)) (1000 * gC (zG z) sn + 1) x.2.2 (pL (vA (zX z)) + 1)))), some (.int (nI (gF (zG z) sn))), some (.int (oI (some (10 * (o / 2) + o % 2)))), some (.int (nI k)), some (.int (nI 1)), some (.int (nI (o + 1))), none, none, none, none, none, none]) ⟨rfl, rfl, rfl, rfl, rfl, rfl, rfl, rfl, rfl, rfl, rfl, trivial⟩ ?_
                                exact ih2 (o + 1) 1 (some (10 * (o / 2) + o % 2)) ((gF (zG z) sn), lvM (frM z qn) (gF (zG z) sn) (pFol (vA (zX z)) x.2.1 &&& pEn (vA (zX z)) 1 (gK (zG z) sn)) (1000 * gC (zG z) sn + 1) x.2.2 (pL (vA (zX z)) + 1), x.2.2 - (1000 * gC (zG z) sn + 1)) (by omega) hk8 (by omega) (hgs.yes (by rw [hgw9, if_pos c207, if_neg c256]) (by omega)) ⟨(hgb _ hsN).1, lvM_lt _ (by omega), by show x.2.2 - _ ≤ _; omega⟩ (by decide)
                            · skip
                              exact absurd c218 c134
                        · skip
                          exact absurd c159 c134
                      · skip
                        have hgw9 := gwM_0 (v := zG z) (A := vA (zX z)) (fr := frM z qn) (x := x) c134 hsn
                        refine mx_iconstN 0 dX10_pathAt_137 (by decide) ?_
                        refine mx_goto (tgt := 142) dX10_pathAt_138 (by decide) ?_
                        refine mx_iaddN dX10_pathAt_142 ?_
                        refine mx_ialdV (3 + 4 * sn) (nI (gF (zG z) sn)) dX10_pathAt_143 (by assumption) ⟨rfl, by rw [l_now]; omega, by rw [l_now]; decide⟩ (hg2.2.2.2 sn (by omega)).1 ?_
                        refine mx_istoreE (i := 12) (ls' := [some (.ref m), some (.int (nI pn)), some (.int (nI qn)), some (.int (nI inn)), some (.int (nI x.2.2)), some (.int (nI x.2.1)), some (.int (nI x.1)), some (.int (oI gn)), some (.int (nI k)), some (.int (nI 0)), some (.int (nI o)), some (.int (nI sn)), some (.int (nI (gF (zG z) sn))), none, none, none, none]) (hd := dX10_pathAt_144) (hn := by decide) (hok := rfl) (hls := rfl) ?_
                        refine mx_aload_n (i := 0) (hi := rfl) (hl := rfl) (hd := dX10_pathAt_146) ?_
                        refine mx_getR (ci := 10) (k := 5) (r := (m + 3)) dX10_pathAt_147 k_1018 (by decide) rfl (by assumption) (by assumption) (by omega) ?_
                        refine mx_iload (i := 11) (hl := rfl) (hd := dX10_pathAt_150) ?_
                        refine mx_callSp (As := [.int (nI sn)]) (rest := [.ref (m + 3)]) dX10_pathAt_152 (mt_at G I2 sn) km_X10_at rfl k_1180 k_1181 rfl rfl (Nat.le_of_ble_eq_true rfl) (by decide) ?_
                        refine mx_iload (i := 10) (hl := rfl) (hd := dX10_pathAt_155) ?_
                        refine mx_iconstN 2 dX10_pathAt_157 (by decide) ?_
                        refine mx_iremN dX10_pathAt_158 (by omega) (by decide) ?_
                        refine mx_ifN_ne 166 dX10_pathAt_159 (by decide) (by omega) (fun c159 => ?_) (fun c159 => ?_)
                        · skip
                          exact absurd c134 c159
                        · skip
                          
                          refine mx_iconstN 2 dX10_pathAt_162 (by decide) ?_
                          refine mx_goto (tgt := 167) dX10_pathAt_163 (by decide) ?_
                          refine mx_iaddN dX10_pathAt_167 ?_
                          refine mx_ialdV (3 + 4 * sn + 2) (nI (gT (zG z) sn)) dX10_pathAt_168 (by assumption) ⟨rfl, by rw [l_now]; omega, by rw [l_now]; decide⟩ (hg2.2.2.2 sn (by omega)).2.2.1 ?_
                          refine mx_istoreE (i := 13) (ls' := [some (.ref m), some (.int (nI pn)), some (.int (nI qn)), some (.int (nI inn)), some (.int (nI x.2.2)), some (.int (nI x.2.1)), some (.int (nI x.1)), some (.int (oI gn)), some (.int (nI k)), some (.int (nI 0)), some (.int (nI o)), some (.int (nI sn)), some (.int (nI (gF (zG z) sn))), some (.int (nI (gT (zG z) sn))), none, none, none]) (hd := dX10_pathAt_169) (hn := by decide) (hok := rfl) (hls := rfl) ?_
                          refine mx_aload_n (i := 0) (hi := rfl) (hl := rfl) (hd := dX10_pathAt_171) ?_
                          refine mx_getR (ci := 10) (k := 5) (r := (m + 3)) dX10_pathAt_172 k_1018 (by decide) rfl (by assumption) (by assumption) (by omega) ?_
                          refine mx_iload (i := 11) (hl := rfl) (hd := dX10_pathAt_175) ?_
                          refine mx_callSp (As := [.int (nI sn)]) (rest := [.ref (m + 3)]) dX10_pathAt_177 (mt_at G I2 sn) km_X10_at rfl k_1180 k_1181 rfl rfl (Nat.le_of_ble_eq_true rfl) (by decide) ?_
                          refine mx_iconstN 1 dX10_pathAt_180 (by decide) ?_
                          refine mx_iaddN dX10_pathAt_181 ?_
                          refine mx_ialdV ((3 + 4 * sn) + 1) (nI (gK (zG z) sn)) dX10_pathAt_182 (by assumption) ⟨rfl, by omega, by omega⟩ (hg2.2.2.2 sn (by omega)).2.1 ?_
                          refine mx_istoreE (i := 14) (ls' := [some (.ref m), some (.int (nI pn)), some (.int (nI qn)), some (.int (nI inn)), some (.int (nI x.2.2)), some (.int (nI x.2.1)), some (.int (nI x.1)), some (.int (oI gn)), some (.int (nI k)), some (.int (nI 0)), some (.int (nI o)), some (.int (nI sn)), some (.int (nI (gF (zG z) sn))), some (.int (nI (gT (zG z) sn))), some (.int (nI (gK (zG z) sn))), none, none]) (hd := dX10_pathAt_183) (hn := by decide) (hok := rfl) (hls := rfl) ?_
                          refine mx_iload (i := 4) (hl := rfl) (hd := dX10_pathAt_185) ?_
                          refine mx_sipushN 1000 dX10_pathAt_187 (by decide) ?_
                          refine mx_aload_n (i := 0) (hi := rfl) (hl := rfl) (hd := dX10_pathAt_190) ?_
                          refine mx_getR (ci := 10) (k := 23) (r := (m + 16)) dX10_pathAt_191 k_1036 (by decide) rfl (by assumption) (by assumption) (by omega) ?_
                          refine mx_iload (i := 11) (hl := rfl) (hd := dX10_pathAt_194) ?_
                          refine mx_ialdV sn (nI (gC (zG z) sn)) dX10_pathAt_196 (by assumption) ⟨rfl, by rw [l_prices]; omega, by rw [l_prices]; decide⟩ ((hpr2 _ hsN).trans (congrArg nI (congrFun (prM_0 (zG z)) _))) ?_
                          refine mx_imulN dX10_pathAt_197 ?_
                          refine mx_isub dX10_pathAt_198 ?_
                          refine mx_iconstN 1 dX10_pathAt_199 (by decide) ?_
                          refine mx_isub dX10_pathAt_200 ?_
                          refine mx_istoreE (i := 15) (ls' := [some (.ref m), some (.int (nI pn)), some (.int (nI qn)), some (.int (nI inn)), some (.int (nI x.2.2)), some (.int (nI x.2.1)), some (.int (nI x.1)), some (.int (oI gn)), some (.int (nI k)), some (.int (nI 0)), some (.int (nI o)), some (.int (nI sn)), some (.int (nI (gF (zG z) sn))), some (.int (nI (gT (zG z) sn))), some (.int (nI (gK (zG z) sn))), some (.int (((nI x.2.2) - (nI (1000 * (gC (zG z) sn)))) - (nI 1))), none]) (hd := dX10_pathAt_201) (hn := by decide) (hok := rfl) (hls := rfl) ?_
                          refine mx_iload (i := 12) (hl := rfl) (hd := dX10_pathAt_203) ?_
                          refine mx_iload (i := 6) (hl := rfl) (hd := dX10_pathAt_205) ?_
                          refine mx_cmpN_ne 251 dX10_pathAt_207 (by decide) (by have := hg2.1.2.2 sn (by omega); omega) (by omega) (fun c207 => ?_) (fun c207 => ?_)
                          · skip
                            
                            refine mx_iconstN 0 dX10_pathAt_251 (by decide) ?_
                            refine mx_istoreE (i := 16) (ls' := [some (.ref m), some (.int (nI pn)), some (.int (nI qn)), some (.int (nI inn)), some (.int (nI x.2.2)), some (.int (nI x.2.1)), some (.int (nI x.1)), some (.int (oI gn)), some (.int (nI k)), some (.int (nI 0)), some (.int (nI o)), some (.int (nI sn)), some (.int (nI (gF (zG z) sn))), some (.int (nI (gT (zG z) sn))), some (.int (nI (gK (zG z) sn))), some (.int (((nI x.2.2) - (nI (1000 * (gC (zG z) sn)))) - (nI 1))), some (.int (nI 0))]) (hd := dX10_pathAt_252) (hn := by decide) (hok := rfl) (hls := rfl) ?_
                            refine mx_iload (i := 16) (hl := rfl) (hd := dX10_pathAt_254) ?_
                            refine mx_if0_eq 286 dX10_pathAt_256 (by decide) ?_
                            refine mx_iincE (i := 10) (ls' := [some (.ref m), some (.int (nI pn)), some (.int (nI qn)), some (.int (nI inn)), some (.int (nI x.2.2)), some (.int (nI x.2.1)), some (.int (nI x.1)), some (.int (oI gn)), some (.int (nI k)), some (.int (nI 0)), some (.int (nI (o + 1))), some (.int (nI sn)), some (.int (nI (gF (zG z) sn))), some (.int (nI (gT (zG z) sn))), some (.int (nI (gK (zG z) sn))), some (.int (((nI x.2.2) - (nI (1000 * (gC (zG z) sn)))) - (nI 1))), some (.int (nI 0))]) 1 dX10_pathAt_286 rfl (by decide) (by decide) rfl rfl ?_
                            refine mx_goto (tgt := 97) dX10_pathAt_289 (by decide) ?_
                            refine mx_leS (ls' := [some (.ref m), some (.int (nI pn)), some (.int (nI qn)), some (.int (nI inn)), some (.int (nI x.2.2)), some (.int (nI x.2.1)), some (.int (nI x.1)), some (.int (oI gn)), some (.int (nI k)), some (.int (nI 0)), some (.int (nI (o + 1))), none, none, none, none, none, none]) ⟨rfl, rfl, rfl, rfl, rfl, rfl, rfl, rfl, rfl, rfl, rfl, trivial⟩ ?_
                            exact ih2 (o + 1) 0 gn x (by omega) hk8 (by omega) (hgs.no (by rw [hgw9, if_neg c207]) (by omega)) hxb (by decide)
                          · skip
                            refine mx_aload_n (i := 0) (hi := rfl) (hl := rfl) (hd := dX10_pathAt_210) ?_
                            refine mx_aload_n (i := 0) (hi := rfl) (hl := rfl) (hd := dX10_pathAt_211) ?_
                            refine mx_iload (i := 5) (hl := rfl) (hd := dX10_pathAt_212) ?_
                            refine mx_iload (i := 10) (hl := rfl) (hd := dX10_pathAt_214) ?_
                            refine mx_iconstN 2 dX10_pathAt_216 (by decide) ?_
                            refine mx_iremN dX10_pathAt_217 (by omega) (by decide) ?_
                            refine mx_ifN_ne 231 dX10_pathAt_218 (by decide) (by omega) (fun c218 => ?_) (fun c218 => ?_)
                            · skip
                              exact absurd c134 c218
                            · skip
                              
                              refine mx_aload_n (i := 0) (hi := rfl) (hl := rfl) (hd := dX10_pathAt_221) ?_
                              refine mx_getR (ci := 10) (k := 25) (r := (m + 18)) dX10_pathAt_222 k_1038 (by decide) rfl (by assumption) (by assumption) (by omega) ?_
                              refine mx_iload (i := 14) (hl := rfl) (hd := dX10_pathAt_225) ?_
                              refine mx_ialdV (gK (zG z) sn) (nI (pEn (vA (zX z)) 0 (gK (zG z) sn))) dX10_pathAt_227 (by assumption) ⟨rfl, by rw [l_on]; exact hbs.2.1, by rw [l_on]; decide⟩ (hon2 _ (hgb _ hsN).2.1) ?_
                              refine mx_goto (tgt := 238) dX10_pathAt_228 (by decide) ?_
                              refine mx_callVp (ci := 10) (As := [.int (nI x.2.1), .int (nI (pEn (vA (zX z)) 0 (gK (zG z) sn)))]) (rest := [.ref m]) dX10_pathAt_238 (mt_behind G I2 m hs0 (vA (zX z)) ha2 hA9 x.2.1 (pEn (vA (zX z)) 0 (gK (zG z) sn)) (by omega)) km_X10_behind rfl k_1334 k_1336 k_52 (by assumption) rfl rfl (Nat.le_of_ble_eq_true rfl) (by decide) ?_
                              refine mx_iload (i := 13) (hl := rfl) (hd := dX10_pathAt_241) ?_
                              refine mx_iload (i := 15) (hl := rfl) (hd := dX10_pathAt_243) ?_
                              refine mx_callVp (ci := 10) (As := [.int (nI (pFol (vA (zX z)) x.2.1 &&& pEn (vA (zX z)) 0 (gK (zG z) sn))), .int (nI (gT (zG z) sn)), .int (((nI x.2.2) - (nI (1000 * (gC (zG z) sn)))) - (nI 1))]) (rest := []) dX10_pathAt_245 (mt_soFar G I2 m hs0 (pL (vA (zX z))) hL11 hL20 (frM z qn) hfr hfb (pFol (vA (zX z)) x.2.1 &&& pEn (vA (zX z)) 0 (gK (zG z) sn)) (gT (zG z) sn) (1000 * gC (zG z) sn + 1) x.2.2 (nI x.2.2 - nI (1000 * gC (zG z) sn) - nI 1) (Nat.lt_trans (mx_and_lt (pFol_lt hwfp _)) (by decide)) (by omega) (fun r hr => mx_lfM hr (by omega) hxb.2.2)) km_X10_soFar rfl k_1338 k_1340 k_53 (by assumption) rfl rfl (Nat.le_of_ble_eq_true rfl) (by decide) ?_
                              refine mx_goto (tgt := 252) dX10_pathAt_248 (by decide) ?_
                              refine mx_istoreE (i := 16) (ls' := [some (.ref m), some (.int (nI pn)), some (.int (nI qn)), some (.int (nI inn)), some (.int (nI x.2.2)), some (.int (nI x.2.1)), some (.int (nI x.1)), some (.int (oI gn)), some (.int (nI k)), some (.int (nI 0)), some (.int (nI o)), some (.int (nI sn)), some (.int (nI (gF (zG z) sn))), some (.int (nI (gT (zG z) sn))), some (.int (nI (gK (zG z) sn))), some (.int (((nI x.2.2) - (nI (1000 * (gC (zG z) sn)))) - (nI 1))), some (.int (nI (lvM (frM z qn) (gT (zG z) sn) (pFol (vA (zX z)) x.2.1 &&& pEn (vA (zX z)) 0 (gK (zG z) sn)) (1000 * gC (zG z) sn + 1) x.2.2 (pL (vA (zX z)) + 1))))]) (hd := dX10_pathAt_252) (hn := by decide) (hok := rfl) (hls := rfl) ?_
                              refine mx_iload (i := 16) (hl := rfl) (hd := dX10_pathAt_254) ?_
                              refine mx_ifN_eq 286 dX10_pathAt_256 (by decide) (Nat.lt_trans (lvM_lt _ (by omega)) (by decide)) (fun c256 => ?_) (fun c256 => ?_)
                              · skip
                                refine mx_iincE (i := 10) (ls' := [some (.ref m), some (.int (nI pn)), some (.int (nI qn)), some (.int (nI inn)), some (.int (nI x.2.2)), some (.int (nI x.2.1)), some (.int (nI x.1)), some (.int (oI gn)), some (.int (nI k)), some (.int (nI 0)), some (.int (nI (o + 1))), some (.int (nI sn)), some (.int (nI (gF (zG z) sn))), some (.int (nI (gT (zG z) sn))), some (.int (nI (gK (zG z) sn))), some (.int (((nI x.2.2) - (nI (1000 * (gC (zG z) sn)))) - (nI 1))), some (.int (nI (lvM (frM z qn) (gT (zG z) sn) (pFol (vA (zX z)) x.2.1 &&& pEn (vA (zX z)) 0 (gK (zG z) sn)) (1000 * gC (zG z) sn + 1) x.2.2 (pL (vA (zX z)) + 1))))]) 1 dX10_pathAt_286 rfl (by decide) (by decide) rfl rfl ?_
                                refine mx_goto (tgt := 97) dX10_pathAt_289 (by decide) ?_
                                refine mx_leS (ls' := [some (.ref m), some (.int (nI pn)), some (.int (nI qn)), some (.int (nI inn)), some (.int (nI x.2.2)), some (.int (nI x.2.1)), some (.int (nI x.1)), some (.int (oI gn)), some (.int (nI k)), some (.int (nI 0)), some (.int (nI (o + 1))), none, none, none, none, none, none]) ⟨rfl, rfl, rfl, rfl, rfl, rfl, rfl, rfl, rfl, rfl, rfl, trivial⟩ ?_
                                exact ih2 (o + 1) 0 gn x (by omega) hk8 (by omega) (hgs.no (by rw [hgw9, if_pos c207, if_pos c256]) (by omega)) hxb (by decide)
                              · skip
                                have hle : 1000 * gC (zG z) sn + 1 ≤ x.2.2 := (Nat.lt_or_ge x.2.2 (1000 * gC (zG z) sn + 1)).elim (fun q9 => absurd (lvM_le q9 _) c256) id
                                have hle1 : 1000 * gC (zG z) sn ≤ x.2.2 := by omega
                                have hle2 : 1 ≤ x.2.2 - 1000 * gC (zG z) sn := by omega
                                refine mx_iconstN 1 dX10_pathAt_259 (by decide) ?_
                                refine mx_istoreE (i := 9) (ls' := [some (.ref m), some (.int (nI pn)), some (.int (nI qn)), some (.int (nI inn)), some (.int (nI x.2.2)), some (.int (nI x.2.1)), some (.int (nI x.1)), some (.int (oI gn)), some (.int (nI k)), some (.int (nI 1)), some (.int (nI o)), some (.int (nI sn)), some (.int (nI (gF (zG z) sn))), some (.int (nI (gT (zG z) sn))), some (.int (nI (gK (zG z) sn))), some (.int (((nI x.2.2) - (nI (1000 * (gC (zG z) sn)))) - (nI 1))), some (.int (nI (lvM (frM z qn) (gT (zG z) sn) (pFol (vA (zX z)) x.2.1 &&& pEn (vA (zX z)) 0 (gK (zG z) sn)) (1000 * gC (zG z) sn + 1) x.2.2 (pL (vA (zX z)) + 1))))]) (hd := dX10_pathAt_260) (hn := by decide) (hok := rfl) (hls := rfl) ?_
                                refine mx_bipushN 10 dX10_pathAt_262 (by decide) ?_
                                refine mx_iload (i := 11) (hl := rfl) (hd := dX10_pathAt_264) ?_
                                refine mx_imulN dX10_pathAt_266 ?_
                                refine mx_iload (i := 10) (hl := rfl) (hd := dX10_pathAt_267) ?_
                                refine mx_iconstN 2 dX10_pathAt_269 (by decide) ?_
                                refine mx_iremN dX10_pathAt_270 (by omega) (by decide) ?_
                                refine mx_iaddN dX10_pathAt_271 ?_
                                refine mx_top (y := oI (some (10 * (o / 2) + o % 2))) (by show nI (10 * sn + o % 2) = nI (10 * (o / 2) + o % 2); rw [hsn]) ?_
                                refine mx_istoreE (i := 7) (ls' := [some (.ref m), some (.int (nI pn)), some (.int (nI qn)), some (.int (nI inn)), some (.int (nI x.2.2)), some (.int (nI x.2.1)), some (.int (nI x.1)), some (.int (oI (some (10 * (o / 2) + o % 2)))), some (.int (nI k)), some (.int (nI 1)), some (.int (nI o)), some (.int (nI sn)), some (.int (nI (gF (zG z) sn))), some (.int (nI (gT (zG z) sn))), some (.int (nI (gK (zG z) sn))), some (.int (((nI x.2.2) - (nI (1000 * (gC (zG z) sn)))) - (nI 1))), some (.int (nI (lvM (frM z qn) (gT (zG z) sn) (pFol (vA (zX z)) x.2.1 &&& pEn (vA (zX z)) 0 (gK (zG z) sn)) (1000 * gC (zG z) sn + 1) x.2.2 (pL (vA (zX z)) + 1))))]) (hd := dX10_pathAt_272) (hn := by decide) (hok := rfl) (hls := rfl) ?_
                                refine mx_iload (i := 16) (hl := rfl) (hd := dX10_pathAt_274) ?_
                                refine mx_istoreE (i := 5) (ls' := [some (.ref m), some (.int (nI pn)), some (.int (nI qn)), some (.int (nI inn)), some (.int (nI x.2.2)), some (.int (nI (lvM (frM z qn) (gT (zG z) sn) (pFol (vA (zX z)) x.2.1 &&& pEn (vA (zX z)) 0 (gK (zG z) sn)) (1000 * gC (zG z) sn + 1) x.2.2 (pL (vA (zX z)) + 1)))), some (.int (nI x.1)), some (.int (oI (some (10 * (o / 2) + o % 2)))), some (.int (nI k)), some (.int (nI 1)), some (.int (nI o)), some (.int (nI sn)), some (.int (nI (gF (zG z) sn))), some (.int (nI (gT (zG z) sn))), some (.int (nI (gK (zG z) sn))), some (.int (((nI x.2.2) - (nI (1000 * (gC (zG z) sn)))) - (nI 1))), some (.int (nI (lvM (frM z qn) (gT (zG z) sn) (pFol (vA (zX z)) x.2.1 &&& pEn (vA (zX z)) 0 (gK (zG z) sn)) (1000 * gC (zG z) sn + 1) x.2.2 (pL (vA (zX z)) + 1))))]) (hd := dX10_pathAt_276) (hn := by decide) (hok := rfl) (hls := rfl) ?_
                                refine mx_iload (i := 13) (hl := rfl) (hd := dX10_pathAt_278) ?_
                                refine mx_istoreE (i := 6) (ls' := [some (.ref m), some (.int (nI pn)), some (.int (nI qn)), some (.int (nI inn)), some (.int (nI x.2.2)), some (.int (nI (lvM (frM z qn) (gT (zG z) sn) (pFol (vA (zX z)) x.2.1 &&& pEn (vA (zX z)) 0 (gK (zG z) sn)) (1000 * gC (zG z) sn + 1) x.2.2 (pL (vA (zX z)) + 1)))), some (.int (nI (gT (zG z) sn))), some (.int (oI (some (10 * (o / 2) + o % 2)))), some (.int (nI k)), some (.int (nI 1)), some (.int (nI o)), some (.int (nI sn)), some (.int (nI (gF (zG z) sn))), some (.int (nI (gT (zG z) sn))), some (.int (nI (gK (zG z) sn))), some (.int (((nI x.2.2) - (nI (1000 * (gC (zG z) sn)))) - (nI 1))), some (.int (nI (lvM (frM z qn) (gT (zG z) sn) (pFol (vA (zX z)) x.2.1 &&& pEn (vA (zX z)) 0 (gK (zG z) sn)) (1000 * gC (zG z) sn + 1) x.2.2 (pL (vA (zX z)) + 1))))]) (hd := dX10_pathAt_280) (hn := by decide) (hok := rfl) (hls := rfl) ?_
                                refine mx_iload (i := 15) (hl := rfl) (hd := dX10_pathAt_282) ?_
                                refine mx_top (y := nI (x.2.2 - (1000 * gC (zG z) sn + 1))) (by rw [nI_sub hle1, nI_sub hle2, Nat.sub_sub]) ?_
                                refine mx_istoreE (i := 4) (ls' := [some (.ref m), some (.int (nI pn)), some (.int (nI qn)), some (.int (nI inn)), some (.int (nI (x.2.2 - (1000 * gC (zG z) sn + 1)))), some (.int (nI (lvM (frM z qn) (gT (zG z) sn) (pFol (vA (zX z)) x.2.1 &&& pEn (vA (zX z)) 0 (gK (zG z) sn)) (1000 * gC (zG z) sn + 1) x.2.2 (pL (vA (zX z)) + 1)))), some (.int (nI (gT (zG z) sn))), some (.int (oI (some (10 * (o / 2) + o % 2)))), some (.int (nI k)), some (.int (nI 1)), some (.int (nI o)), some (.int (nI sn)), some (.int (nI (gF (zG z) sn))), some (.int (nI (gT (zG z) sn))), some (.int (nI (gK (zG z) sn))), some (.int (((nI x.2.2) - (nI (1000 * (gC (zG z) sn)))) - (nI 1))), some (.int (nI (lvM (frM z qn) (gT (zG z) sn) (pFol (vA (zX z)) x.2.1 &&& pEn (vA (zX z)) 0 (gK (zG z) sn)) (1000 * gC (zG z) sn + 1) x.2.2 (pL (vA (zX z)) + 1))))]) (hd := dX10_pathAt_284) (hn := by decide) (hok := rfl) (hls := rfl) ?_
                                refine mx_iincE (i := 10) (ls' := [some (.ref m), some (.int (nI pn)), some (.int (nI qn)), some (.int (nI inn)), some (.int (nI (x.2.2 - (1000 * gC (zG z) sn + 1)))), some (.int (nI (lvM (frM z qn) (gT (zG z) sn) (pFol (vA (zX z)) x.2.1 &&& pEn (vA (zX z)) 0 (gK (zG z) sn)) (1000 * gC (zG z) sn + 1) x.2.2 (pL (vA (zX z)) + 1)))), some (.int (nI (gT (zG z) sn))), some (.int (oI (some (10 * (o / 2) + o % 2)))), some (.int (nI k)), some (.int (nI 1)), some (.int (nI (o + 1))), some (.int (nI sn)), some (.int (nI (gF (zG z) sn))), some (.int (nI (gT (zG z) sn))), some (.int (nI (gK (zG z) sn))), some (.int (((nI x.2.2) - (nI (1000 * (gC (zG z) sn)))) - (nI 1))), some (.int (nI (lvM (frM z qn) (gT (zG z) sn) (pFol (vA (zX z)) x.2.1 &&& pEn (vA (zX z)) 0 (gK (zG z) sn)) (1000 * gC (zG z) sn + 1) x.2.2 (pL (vA (zX z)) + 1))))]) 1 dX10_pathAt_286 rfl (by decide) (by decide) rfl rfl ?_
                                refine mx_goto (tgt := 97) dX10_pathAt_289 (by decide) ?_
                                refine mx_leS (ls' := [some (.ref m), some (.int (nI pn)), some (.int (nI qn)), some (.int (nI inn)), some (.int (nI (x.2.2 - (1000 * gC (zG z) sn + 1)))), some (.int (nI (lvM (frM z qn) (gT (zG z) sn) (pFol (vA (zX z)) x.2.1 &&& pEn (vA (zX z)) 0 (gK (zG z) sn)) (1000 * gC (zG z) sn + 1) x.2.2 (pL (vA (zX z)) + 1)))), some (.int (nI (gT (zG z) sn))), some (.int (oI (some (10 * (o / 2) + o % 2)))), some (.int (nI k)), some (.int (nI 1)), some (.int (nI (o + 1))), none, none, none, none, none, none]) ⟨rfl, rfl, rfl, rfl, rfl, rfl, rfl, rfl, rfl, rfl, rfl, trivial⟩ ?_
                                exact ih2 (o + 1) 1 (some (10 * (o / 2) + o % 2)) ((gT (zG z) sn), lvM (frM z qn) (gT (zG z) sn) (pFol (vA (zX z)) x.2.1 &&& pEn (vA (zX z)) 0 (gK (zG z) sn)) (1000 * gC (zG z) sn + 1) x.2.2 (pL (vA (zX z)) + 1), x.2.2 - (1000 * gC (zG z) sn + 1)) (by omega) hk8 (by omega) (hgs.yes (by rw [hgw9, if_pos c207, if_neg c256]) (by omega)) ⟨(hgb _ hsN).2.2.1, lvM_lt _ (by omega), by show x.2.2 - _ ≤ _; omega⟩ (by decide)
              refine mx_iload (i := 8) (hl := rfl) (hd := dX10_pathAt_85) ?_
              refine mx_iload_n (i := 3) (hi := rfl) (hl := rfl) (hd := dX10_pathAt_87) ?_
              refine mx_cmpN_gt 298 dX10_pathAt_88 (by decide) (by omega) (by omega) (fun c88 => ?_) (fun c88 => ?_)
              · skip
                refine mx_iload (i := 7) (hl := rfl) (hd := dX10_pathAt_298) ?_
                exact mx_iret dX10_pathAt_300 rfl rfl (⟨⟨(hS2.2 0 (by omega)).trans hr0, mt_fr hrf hS2.fr, fun _ => ⟨congrArg (fun x => some (Value.int x)) (am_p3 heb c56 c66 (by rw [show inn + 1 = k by omega]; exact hx)), hW1.S hS2⟩, fun z9 => absurd hm0 z9⟩, rfl⟩)
              · skip
                refine mx_iconstN 0 dX10_pathAt_91 (by decide) ?_
                refine mx_istoreE (i := 9) (ls' := [some (.ref m), some (.int (nI pn)), some (.int (nI qn)), some (.int (nI inn)), some (.int (nI x0.2.2)), some (.int (nI x0.2.1)), some (.int (nI x0.1)), some (.int (oI g0)), some (.int (nI k)), some (.int (nI 0)), none, none, none, none, none, none, none]) (hd := dX10_pathAt_92) (hn := by decide) (hok := rfl) (hls := rfl) ?_
                refine mx_iconstN 0 dX10_pathAt_94 (by decide) ?_
                refine mx_istoreE (i := 10) (ls' := [some (.ref m), some (.int (nI pn)), some (.int (nI qn)), some (.int (nI inn)), some (.int (nI x0.2.2)), some (.int (nI x0.2.1)), some (.int (nI x0.1)), some (.int (oI g0)), some (.int (nI k)), some (.int (nI 0)), some (.int (nI 0)), none, none, none, none, none, none]) (hd := dX10_pathAt_95) (hn := by decide) (hok := rfl) (hls := rfl) ?_
                exact L97 _ 0 0 g0 x0 (Nat.lt_succ_self _) (by omega) (Nat.zero_le _) (Or.inl ⟨rfl, rfl, rfl, rfl⟩) hxb0 (by decide)
          refine mx_iconstN 0 dX10_pathAt_82 (by decide) ?_
          refine mx_istoreE (i := 8) (ls' := [some (.ref m), some (.int (nI pn)), some (.int (nI qn)), some (.int (nI inn)), some (.int (nI (enM (bM z pn qn)))), some (.int (nI 1)), some (.int (nI pn)), some (.int (-9)), some (.int (nI 0)), none, none, none, none, none, none, none, none]) (hd := dX10_pathAt_83) (hn := by decide) (hok := rfl) (hls := rfl) ?_
          exact L85 _ 0 none (pn, 1, enM (bM z pn qn)) (Nat.lt_succ_self _) (Nat.zero_le _) rfl ⟨hpn8, (by decide : 1 < 2 ^ 21), enM_le _ heb⟩
        · skip
          
          refine mx_bipush (v := (-9)) (by decide) dX10_pathAt_69 ?_
          exact mx_iret dX10_pathAt_71 rfl rfl (⟨⟨(hS2.2 0 (by omega)).trans hr0, mt_fr hrf hS2.fr, fun _ => ⟨congrArg (fun x => some (Value.int x)) (am_p2 heb c56 c66), hW1.S hS2⟩, fun z9 => absurd hm0 z9⟩, rfl⟩)
    · skip
      refine mx_iconstN 0 dX10_pathAt_42 (by decide) ?_
      exact mx_iret dX10_pathAt_43 rfl rfl (⟨⟨hr0, hrf, fun z9 => absurd z9 (by omega), fun _ => ⟨⟨_, rfl⟩, hW1⟩⟩, rfl⟩)
  refine mx_aload_n (i := 0) (hi := rfl) (hl := rfl) (hd := dX10_pathAt_0) ?_
  refine mx_aload_n (i := 0) (hi := rfl) (hl := rfl) (hd := dX10_pathAt_1) ?_
  refine mx_getR (ci := 10) (k := 5) (r := (m + 3)) dX10_pathAt_2 k_1018 (by decide) rfl (by assumption) (by assumption) (by omega) ?_
  refine mx_iload_n (i := 1) (hi := rfl) (hl := rfl) (hd := dX10_pathAt_5) ?_
  refine mx_callSp (As := [.ref (m + 3), .int p]) (rest := [.ref m]) dX10_pathAt_6 (mt_isPerson G I (m + 3) (zG z) t_now l_now hvp.1 p) km_X10_isPerson rfl k_1243 k_1244 rfl rfl (Nat.le_of_ble_eq_true rfl) (by decide) ?_
  refine mx_ifB_eq 23 dX10_pathAt_9 (by decide) (fun c9 => ?_) (fun c9 => ?_)
  · skip
    refine mx_iconstN 1 dX10_pathAt_23 (by decide) ?_
    refine mx_goto (tgt := 36) dX10_pathAt_24 (by decide) ?_
    refine mx_top (y := nI (fl_pathAt z p q i)) (congrArg nI (Eq.symm (by unfold fl_pathAt; rw [if_pos (by first | exact fun q9 => c9 q9.1 | exact fun q9 => c20 q9.2)]))) ?_
    exact J36 ()
  · skip
    refine mx_aload_n (i := 0) (hi := rfl) (hl := rfl) (hd := dX10_pathAt_12) ?_
    refine mx_getR (ci := 10) (k := 5) (r := (m + 3)) dX10_pathAt_13 k_1018 (by decide) rfl (by assumption) (by assumption) (by omega) ?_
    refine mx_iload_n (i := 2) (hi := rfl) (hl := rfl) (hd := dX10_pathAt_16) ?_
    refine mx_callSp (As := [.ref (m + 3), .int q]) (rest := [.ref m]) dX10_pathAt_17 (mt_isPerson G I (m + 3) (zG z) t_now l_now hvp.1 q) km_X10_isPerson rfl k_1243 k_1244 rfl rfl (Nat.le_of_ble_eq_true rfl) (by decide) ?_
    refine mx_ifB_ne 27 dX10_pathAt_20 (by decide) (fun c20 => ?_) (fun c20 => ?_)
    · skip
      refine mx_iload_n (i := 3) (hi := rfl) (hl := rfl) (hd := dX10_pathAt_27) ?_
      refine mx_ifR_ge 35 dX10_pathAt_28 (by decide) (fun c28 => ?_) (fun c28 => ?_)
      · skip
        refine mx_iconstN 0 dX10_pathAt_35 (by decide) ?_
        refine mx_top (y := nI (fl_pathAt z p q i)) (congrArg nI (Eq.symm (by unfold fl_pathAt; rw [if_neg (fun q9 => q9 ⟨c9, c20⟩), if_neg (by omega)]))) ?_
        exact J36 ()
      · skip
        refine mx_iconstN 2 dX10_pathAt_31 (by decide) ?_
        refine mx_goto (tgt := 36) dX10_pathAt_32 (by decide) ?_
        refine mx_top (y := nI (fl_pathAt z p q i)) (congrArg nI (Eq.symm (by unfold fl_pathAt; rw [if_neg (fun q9 => q9 ⟨c9, c20⟩), if_pos (by omega)]))) ?_
        exact J36 ()
    · skip
      refine mx_iconstN 1 dX10_pathAt_23 (by decide) ?_
      refine mx_goto (tgt := 36) dX10_pathAt_24 (by decide) ?_
      refine mx_top (y := nI (fl_pathAt z p q i)) (congrArg nI (Eq.symm (by unfold fl_pathAt; rw [if_pos (by first | exact fun q9 => c9 q9.1 | exact fun q9 => c20 q9.2)]))) ?_
      exact J36 ()
