/-! THE REFERENCE: a graph as a row of numbers -/
def gaF (f : Nat → Int32) (v : Gr) : Prop := wfG v ∧ f 0 = nI (gP v) ∧ f 1 = nI (gN v) ∧ ∀ s, s < gN v → f (3 + 4 * s) = nI (gF v s) ∧ f (3 + 4 * s + 1) = nI (gK v s) ∧ f (3 + 4 * s + 2) = nI (gT v s) ∧ f (3 + 4 * s + 3) = nI (gC v s)
/-- the pattern's places are as they were -/
def gxF (f f' : Nat → Int32) : Prop := ∀ k, (k = 2 ∨ 103 ≤ k) → f' k = f k
theorem gaF.c {f f' : Nat → Int32} {v : Gr} (h : gaF f v) (h24 : gN v ≤ 25) (e : ∀ k, k < 103 → f' k = f k) : gaF f' v := by
  obtain ⟨h1, h2, h3, h4⟩ := h
  refine ⟨h1, by rw [e _ (by omega)]; exact h2, by rw [e _ (by omega)]; exact h3, fun s hs => ?_⟩
  obtain ⟨a, b, c, d⟩ := h4 s hs
  exact ⟨by rw [e _ (by omega)]; exact a, by rw [e _ (by omega)]; exact b, by rw [e _ (by omega)]; exact c, by rw [e _ (by omega)]; exact d⟩
theorem gaF.put {f f' : Nat → Int32} {v : Gr} {p k q c : Nat} (h : gaF f v) (h24 : gN v ≤ 24) (hp : p < 8) (hk : k < 4) (hq : q < 8) (hc : 1 ≤ c ∧ c ≤ 9) (e1 : f' 1 = nI (gN v + 1)) (ea : f' (3 + 4 * gN v) = nI p) (eb : f' (3 + 4 * gN v + 1) = nI k) (ec : f' (3 + 4 * gN v + 2) = nI q) (ed : f' (3 + 4 * gN v + 3) = nI c)
    (eo : ∀ j, j ≠ 1 → j < 3 + 4 * gN v → f' j = f j) : gaF f' (gPut v p k q c) := by
  obtain ⟨⟨w1, w2, w3⟩, h2, h3, h4⟩ := h
  refine ⟨⟨w1, by show gN v + 1 ≤ 25; omega, fun s hs => ?_⟩, by rw [eo _ (by omega) (by omega)]; exact h2, e1, fun s hs => ?_⟩
  · have hs : s < gN v + 1 := hs
    show (if s = gN v then p else gF v s) < 8 ∧ (if s = gN v then k else gK v s) < 4 ∧ (if s = gN v then q else gT v s) < 8 ∧ 1 ≤ (if s = gN v then c else gC v s) ∧ (if s = gN v then c else gC v s) ≤ 9
    by_cases e : s = gN v
    · simp only [if_pos e]; omega
    · simp only [if_neg e]; exact w3 s (by omega)
  · have hs : s < gN v + 1 := hs
    show f' (3 + 4 * s) = nI (if s = gN v then p else gF v s) ∧ f' (3 + 4 * s + 1) = nI (if s = gN v then k else gK v s) ∧ f' (3 + 4 * s + 2) = nI (if s = gN v then q else gT v s) ∧ f' (3 + 4 * s + 3) = nI (if s = gN v then c else gC v s)
    by_cases e : s = gN v
    · subst e
      simp only [if_true]
      exact ⟨ea, eb, ec, ed⟩
    · simp only [if_neg e]
      obtain ⟨x1, x2, x3, x4⟩ := h4 s (by omega)
      exact ⟨by rw [eo _ (by omega) (by omega)]; exact x1, by rw [eo _ (by omega) (by omega)]; exact x2, by rw [eo _ (by omega) (by omega)]; exact x3, by rw [eo _ (by omega) (by omega)]; exact x4⟩
theorem gaF.drop {f f' : Nat → Int32} {v : Gr} {i : Nat} (h : gaF f v) (hi : i < gN v) (e1 : f' 1 = nI (gN v - 1)) (e0 : f' 0 = f 0) (ea : ∀ j, 3 ≤ j → j < 3 + 4 * i → f' j = f j) (eb : ∀ j, 3 + 4 * i ≤ j → j < 3 + 4 * (gN v - 1) → f' j = f (j + 4)) : gaF f' (gDrop v i) := by
  obtain ⟨w, h2, h3, h4⟩ := h
  refine ⟨w.drop i, e0.trans h2, e1, fun s hs => ?_⟩
  have hs : s < gN v - 1 := hs
  show f' (3 + 4 * s) = nI (gDr (gF v) i s) ∧ f' (3 + 4 * s + 1) = nI (gDr (gK v) i s) ∧ f' (3 + 4 * s + 2) = nI (gDr (gT v) i s) ∧ f' (3 + 4 * s + 3) = nI (gDr (gC v) i s)
  unfold gDr
  by_cases c : i ≤ s
  · simp only [if_pos c]
    obtain ⟨x1, x2, x3, x4⟩ := h4 (s + 1) (by omega)
    exact ⟨by rw [eb _ (by omega) (by omega)]; exact x1, by rw [eb _ (by omega) (by omega), show 3 + 4 * s + 1 + 4 = 3 + 4 * (s + 1) + 1 by omega]; exact x2, by rw [eb _ (by omega) (by omega), show 3 + 4 * s + 2 + 4 = 3 + 4 * (s + 1) + 2 by omega]; exact x3, by rw [eb _ (by omega) (by omega), show 3 + 4 * s + 3 + 4 = 3 + 4 * (s + 1) + 3 by omega]; exact x4⟩
  · simp only [if_neg c]
    obtain ⟨x1, x2, x3, x4⟩ := h4 s (by omega)
    exact ⟨by rw [ea _ (by omega) (by omega)]; exact x1, by rw [ea _ (by omega) (by omega)]; exact x2, by rw [ea _ (by omega) (by omega)]; exact x3, by rw [ea _ (by omega) (by omega)]; exact x4⟩
theorem gaF.rev {f f' : Nat → Int32} {v : Gr} {i : Nat} (h : gaF f v) (hi : i < gN v) (ea : f' (3 + 4 * i) = nI (gT v i)) (eb : f' (3 + 4 * i + 2) = nI (gF v i)) (eo : ∀ j, j ≠ 3 + 4 * i → j ≠ 3 + 4 * i + 2 → f' j = f j) : gaF f' (gRev v i) := by
  obtain ⟨w, h2, h3, h4⟩ := h
  refine ⟨w.rev hi, by rw [eo _ (by omega) (by omega)]; exact h2, by rw [eo _ (by omega) (by omega)]; exact h3, fun s hs => ?_⟩
  obtain ⟨x1, x2, x3, x4⟩ := h4 s hs
  show f' (3 + 4 * s) = nI (if s = i then gT v i else gF v s) ∧ f' (3 + 4 * s + 1) = nI (gK v s) ∧ f' (3 + 4 * s + 2) = nI (if s = i then gF v i else gT v s) ∧ f' (3 + 4 * s + 3) = nI (gC v s)
  by_cases e : s = i
  · subst e
    simp only [if_true]
    exact ⟨ea, by rw [eo _ (by omega) (by omega)]; exact x2, eb, by rw [eo _ (by omega) (by omega)]; exact x4⟩
  · simp only [if_neg e]
    exact ⟨by rw [eo _ (by omega) (by omega)]; exact x1, by rw [eo _ (by omega) (by omega)]; exact x2, by rw [eo _ (by omega) (by omega)]; exact x3, by rw [eo _ (by omega) (by omega)]; exact x4⟩
theorem gaF.cost {f f' : Nat → Int32} {v : Gr} {i c : Nat} (h : gaF f v) (hi : i < gN v) (hc : 1 ≤ c ∧ c ≤ 9) (ea : f' (3 + 4 * i + 3) = nI c) (eo : ∀ j, j ≠ 3 + 4 * i + 3 → f' j = f j) : gaF f' (gCost v i c) := by
  obtain ⟨w, h2, h3, h4⟩ := h
  refine ⟨w.cost i hc, by rw [eo _ (by omega)]; exact h2, by rw [eo _ (by omega)]; exact h3, fun s hs => ?_⟩
  obtain ⟨x1, x2, x3, x4⟩ := h4 s hs
  show f' (3 + 4 * s) = nI (gF v s) ∧ f' (3 + 4 * s + 1) = nI (gK v s) ∧ f' (3 + 4 * s + 2) = nI (gT v s) ∧ f' (3 + 4 * s + 3) = nI (if s = i then c else gC v s)
  by_cases e : s = i
  · subst e
    simp only [if_true]
    exact ⟨by rw [eo _ (by omega)]; exact x1, by rw [eo _ (by omega)]; exact x2, by rw [eo _ (by omega)]; exact x3, ea⟩
  · simp only [if_neg e]
    exact ⟨by rw [eo _ (by omega)]; exact x1, by rw [eo _ (by omega)]; exact x2, by rw [eo _ (by omega)]; exact x3, by rw [eo _ (by omega)]; exact x4⟩
theorem lgc_gt {x y : Int64} : 0 < (lg_cmp x y).toInt ↔ y.toInt < x.toInt := by
  have h := lg_cmp_gt x y
  rw [Int32.lt_iff_toInt_lt, Int64.lt_iff_toInt_lt] at h
  exact h
theorem in_iff {p : Int32} {n : Nat} (h : n ≤ 25) : ((0 : Int64).toInt ≤ p.toInt64.toInt ∧ p.toInt64.toInt ≤ (nI n - nI 1).toInt64.toInt) ↔ (0 ≤ p.toInt ∧ p.toInt < (n : Int)) := by
  rw [Int32.toInt_toInt64, Int32.toInt_toInt64, nI_subI (by omega) (by decide), show (0 : Int64).toInt = 0 from rfl]
  omega

set_option maxHeartbeats 4000000 in
set_option maxRecDepth 100000 in
theorem mt_at (G : mx_G) (I : mx_I) (s : Nat) : mx_CTp yX10_at mX10_at 1 [.int (nI s)] G I (some (.int (nI (3 + 4 * s)))) := by
  refine mx_start (k := 0) (by decide) rfl rfl (fun h => nomatch h) (Nat.le_of_ble_eq_true rfl) ?_
  show mx_V mX10_at mx_S0 1 0 0 0 [some (.int (nI s))] [] G I (fun rv Gz Iz => rv = some (.int (nI (3 + 4 * s))) ∧ Gz = G ∧ Iz = I) (fun _ _ _ => False)
  refine mx_iconstN 3 dX10_at_0 (by decide) ?_
  refine mx_iconstN 4 dX10_at_1 (by decide) ?_
  refine mx_iload_n (i := 0) (hi := rfl) (hl := rfl) (hd := dX10_at_2) ?_
  refine mx_imulN dX10_at_3 ?_
  refine mx_iaddN dX10_at_4 ?_
  exact mx_iret dX10_at_5 rfl rfl (⟨rfl, rfl, rfl⟩)

set_option maxHeartbeats 4000000 in
set_option maxRecDepth 100000 in
theorem mt_in (G : mx_G) (I : mx_I) (x lo hi : Int64) : mx_CTp yX10_in mX10_in 1 [.long x, .long lo, .long hi] G I (some (.int (mx_b (decide (lo.toInt ≤ x.toInt ∧ x.toInt ≤ hi.toInt))))) := by
  refine mx_start (k := 0) (by decide) rfl rfl (fun h => nomatch h) (Nat.le_of_ble_eq_true rfl) ?_
  show mx_V mX10_in mx_S0 1 0 0 0 [some (.long x), none, some (.long lo), none, some (.long hi), none] [] G I (fun rv Gz Iz => rv = some (.int (mx_b (decide (lo.toInt ≤ x.toInt ∧ x.toInt ≤ hi.toInt)))) ∧ Gz = G ∧ Iz = I) (fun _ _ _ => False)
  refine mx_lload_n (i := 0) (hi := rfl) (hl := rfl) (hd := dX10_in_0) ?_
  refine mx_lload_n (i := 2) (hi := rfl) (hl := rfl) (hd := dX10_in_1) ?_
  refine mx_lcmp dX10_in_2 ?_
  refine mx_ifR_lt 17 dX10_in_3 (by decide) (fun c3 => ?_) (fun c3 => ?_)
  · skip
    have d3 := lgc_lt.mp c3
    refine mx_iconstN 0 dX10_in_17 (by decide) ?_
    exact mx_iret dX10_in_18 rfl (by decide) (⟨congrArg (fun z => some (Value.int z)) (mx_bF (by omega)), rfl, rfl⟩)
  · skip
    have d3 : ¬ x.toInt < lo.toInt := fun q => c3 (lgc_lt.mpr q)
    refine mx_lload_n (i := 0) (hi := rfl) (hl := rfl) (hd := dX10_in_6) ?_
    refine mx_lload (i := 4) (hl := rfl) (hd := dX10_in_7) ?_
    refine mx_lcmp dX10_in_9 ?_
    refine mx_ifR_gt 17 dX10_in_10 (by decide) (fun c10 => ?_) (fun c10 => ?_)
    · skip
      have d10 := lgc_gt.mp c10
      refine mx_iconstN 0 dX10_in_17 (by decide) ?_
      exact mx_iret dX10_in_18 rfl (by decide) (⟨congrArg (fun z => some (Value.int z)) (mx_bF (by omega)), rfl, rfl⟩)
    · skip
      have d10 : ¬ hi.toInt < x.toInt := fun q => c10 (lgc_gt.mpr q)
      refine mx_iconstN 1 dX10_in_13 (by decide) ?_
      refine mx_goto (tgt := 18) dX10_in_14 (by decide) ?_
      exact mx_iret dX10_in_18 rfl (by decide) (⟨congrArg (fun z => some (Value.int z)) (mx_bT (by omega)), rfl, rfl⟩)

set_option maxHeartbeats 4000000 in
set_option maxRecDepth 100000 in
theorem mt_isPerson (G : mx_G) (I : mx_I) (g : Nat) (v : Gr) (ht : mx_tg G g = 1) (hl : mx_ln G g = 143) (hg : gaF (I g) v) (p : Int32) : mx_CTp yX10_isPerson mX10_isPerson 2 [.ref g, .int p] G I (some (.int (mx_b (decide (0 ≤ p.toInt ∧ p.toInt < (gP v : Int)))))) := by
  refine mx_start (k := 0) (by decide) rfl rfl (fun h => nomatch h) (Nat.le_of_ble_eq_true rfl) ?_
  show mx_V mX10_isPerson mx_S0 2 0 0 0 [some (.ref g), some (.int p)] [] G I (fun rv Gz Iz => rv = some (.int (mx_b (decide (0 ≤ p.toInt ∧ p.toInt < (gP v : Int))))) ∧ Gz = G ∧ Iz = I) (fun _ _ _ => False)
  have hgw := hg.1
  obtain ⟨hgP, hgN, hgb⟩ := hgw
  refine mx_iload_n (i := 1) (hi := rfl) (hl := rfl) (hd := dX10_isPerson_0) ?_
  refine mx_i2l (hv := rfl) (hd := dX10_isPerson_1) ?_
  refine mx_lconst (v := 0) (by decide) dX10_isPerson_2 ?_
  refine mx_aload_n (i := 0) (hi := rfl) (hl := rfl) (hd := dX10_isPerson_3) ?_
  refine mx_iconstN 0 dX10_isPerson_4 (by decide) ?_
  refine mx_ialdV 0 (nI (gP v)) dX10_isPerson_5 (by assumption) ⟨rfl, by omega, by omega⟩ hg.2.1 ?_
  refine mx_iconstN 1 dX10_isPerson_6 (by decide) ?_
  refine mx_isub dX10_isPerson_7 ?_
  refine mx_i2l (hv := rfl) (hd := dX10_isPerson_8) ?_
  refine mx_callSp (As := [.long p.toInt64, .long (0 : Int64), .long (((nI (gP v)) - (nI 1)).toInt64)]) (rest := []) dX10_isPerson_9 (mt_in G I (p.toInt64) (0 : Int64) ((nI (gP v) - nI 1).toInt64)) km_X10_in rfl k_1119 k_1120 rfl rfl (Nat.le_of_ble_eq_true rfl) (by decide) ?_
  refine mx_top (y := mx_b (decide (0 ≤ p.toInt ∧ p.toInt < (gP v : Int)))) (congrArg mx_b (decide_eq_decide.mpr (in_iff (by omega)))) ?_
  exact mx_iret dX10_isPerson_12 rfl (mx_b_nz _) (⟨rfl, rfl, rfl⟩)

set_option maxHeartbeats 4000000 in
set_option maxRecDepth 100000 in
theorem mt_isStep (G : mx_G) (I : mx_I) (g : Nat) (v : Gr) (ht : mx_tg G g = 1) (hl : mx_ln G g = 143) (hg : gaF (I g) v) (p : Int32) : mx_CTp yX10_isStep mX10_isStep 2 [.ref g, .int p] G I (some (.int (mx_b (decide (0 ≤ p.toInt ∧ p.toInt < (gN v : Int)))))) := by
  refine mx_start (k := 0) (by decide) rfl rfl (fun h => nomatch h) (Nat.le_of_ble_eq_true rfl) ?_
  show mx_V mX10_isStep mx_S0 2 0 0 0 [some (.ref g), some (.int p)] [] G I (fun rv Gz Iz => rv = some (.int (mx_b (decide (0 ≤ p.toInt ∧ p.toInt < (gN v : Int))))) ∧ Gz = G ∧ Iz = I) (fun _ _ _ => False)
  have hgw := hg.1
  obtain ⟨hgP, hgN, hgb⟩ := hgw
  refine mx_iload_n (i := 1) (hi := rfl) (hl := rfl) (hd := dX10_isStep_0) ?_
  refine mx_i2l (hv := rfl) (hd := dX10_isStep_1) ?_
  refine mx_lconst (v := 0) (by decide) dX10_isStep_2 ?_
  refine mx_aload_n (i := 0) (hi := rfl) (hl := rfl) (hd := dX10_isStep_3) ?_
  refine mx_iconstN 1 dX10_isStep_4 (by decide) ?_
  refine mx_ialdV 1 (nI (gN v)) dX10_isStep_5 (by assumption) ⟨rfl, by omega, by omega⟩ hg.2.2.1 ?_
  refine mx_iconstN 1 dX10_isStep_6 (by decide) ?_
  refine mx_isub dX10_isStep_7 ?_
  refine mx_i2l (hv := rfl) (hd := dX10_isStep_8) ?_
  refine mx_callSp (As := [.long p.toInt64, .long (0 : Int64), .long (((nI (gN v)) - (nI 1)).toInt64)]) (rest := []) dX10_isStep_9 (mt_in G I (p.toInt64) (0 : Int64) ((nI (gN v) - nI 1).toInt64)) km_X10_in rfl k_1119 k_1120 rfl rfl (Nat.le_of_ble_eq_true rfl) (by decide) ?_
  refine mx_top (y := mx_b (decide (0 ≤ p.toInt ∧ p.toInt < (gN v : Int)))) (congrArg mx_b (decide_eq_decide.mpr (in_iff (by omega)))) ?_
  exact mx_iret dX10_isStep_12 rfl (mx_b_nz _) (⟨rfl, rfl, rfl⟩)

set_option maxHeartbeats 4000000 in
set_option maxRecDepth 100000 in
theorem mt_found (G : mx_G) (I : mx_I) (g : Nat) (v : Gr) (ht : mx_tg G g = 1) (hl : mx_ln G g = 143) (hg : gaF (I g) v) (p k q : Nat) (hp : p < 2 ^ 31) (hk : k < 2 ^ 31) (hq : q < 2 ^ 31) : mx_CTp yX10_found mX10_found 2 [.ref g, .int (nI p), .int (nI k), .int (nI q)] G I (some (.int (oI (gIx v p k q)))) := by
  refine mx_start (k := 1) (by decide) rfl rfl (fun h => nomatch h) (Nat.le_of_ble_eq_true rfl) ?_
  show mx_V mX10_found mx_S0 2 0 0 0 [some (.ref g), some (.int (nI p)), some (.int (nI k)), some (.int (nI q)), none] [] G I (fun rv Gz Iz => rv = some (.int (oI (gIx v p k q))) ∧ Gz = G ∧ Iz = I) (fun _ _ _ => False)
  have hgw := hg.1
  obtain ⟨hgP, hgN, hgb⟩ := hgw
  have L3 : ∀ (fq : Nat) (s : Nat), gN v - s < fq → (s ≤ gN v) → (gIx v p k q = gIxF v p k q (gN v - s) s) → mx_V mX10_found mx_S0 2 0 0 3 [some (.ref g), some (.int (nI p)), some (.int (nI k)), some (.int (nI q)), some (.int (nI s))] [] G I (fun rv Gz Iz => rv = some (.int (oI (gIx v p k q))) ∧ Gz = G ∧ Iz = I) (fun _ _ _ => False) := by
    intro fq
    induction fq with
    | zero => intro s hfu; exact absurd hfu (Nat.not_lt_zero _)
    | succ fq ih =>
      intro s hfu hsn hx
      refine mx_iload (i := 4) (hl := rfl) (hd := dX10_found_3) ?_
      refine mx_aload_n (i := 0) (hi := rfl) (hl := rfl) (hd := dX10_found_5) ?_
      refine mx_iconstN 1 dX10_found_6 (by decide) ?_
      refine mx_ialdV 1 (nI (gN v)) dX10_found_7 (by assumption) ⟨rfl, by omega, by omega⟩ hg.2.2.1 ?_
      refine mx_cmpN_ge 57 dX10_found_8 (by decide) (by omega) (by omega) (fun c8 => ?_) (fun c8 => ?_)
      · skip
        refine mx_bipush (v := (-9)) (by decide) dX10_found_57 ?_
        exact mx_iret dX10_found_59 rfl rfl (⟨by rw [hx, show gN v - s = 0 by omega, gIxF]; rfl, rfl, rfl⟩)
      · skip
        refine mx_aload_n (i := 0) (hi := rfl) (hl := rfl) (hd := dX10_found_11) ?_
        refine mx_iload (i := 4) (hl := rfl) (hd := dX10_found_12) ?_
        refine mx_callSp (As := [.int (nI s)]) (rest := [.ref g]) dX10_found_14 (mt_at G I s) km_X10_at rfl k_1180 k_1181 rfl rfl (Nat.le_of_ble_eq_true rfl) (by decide) ?_
        refine mx_ialdV (3 + 4 * s) (nI (gF v s)) dX10_found_17 (by assumption) ⟨rfl, by omega, by omega⟩ (hg.2.2.2 s (by omega)).1 ?_
        refine mx_iload_n (i := 1) (hi := rfl) (hl := rfl) (hd := dX10_found_18) ?_
        refine mx_cmpN_ne 51 dX10_found_19 (by decide) (by have := hg.1.2.2 s (by omega); omega) (by omega) (fun c19 => ?_) (fun c19 => ?_)
        · skip
          refine mx_iincE (i := 4) (ls' := [some (.ref g), some (.int (nI p)), some (.int (nI k)), some (.int (nI q)), some (.int (nI (s + 1)))]) 1 dX10_found_51 rfl (by decide) (by decide) rfl rfl ?_
          refine mx_goto (tgt := 3) dX10_found_54 (by decide) ?_
          exact ih (s + 1) (by omega) (by omega) (by rw [hx, show gN v - s = gN v - (s + 1) + 1 by omega, gIxF, if_neg (by omega)])
        · skip
          refine mx_aload_n (i := 0) (hi := rfl) (hl := rfl) (hd := dX10_found_22) ?_
          refine mx_iload (i := 4) (hl := rfl) (hd := dX10_found_23) ?_
          refine mx_callSp (As := [.int (nI s)]) (rest := [.ref g]) dX10_found_25 (mt_at G I s) km_X10_at rfl k_1180 k_1181 rfl rfl (Nat.le_of_ble_eq_true rfl) (by decide) ?_
          refine mx_iconstN 1 dX10_found_28 (by decide) ?_
          refine mx_iaddN dX10_found_29 ?_
          refine mx_ialdV ((3 + 4 * s) + 1) (nI (gK v s)) dX10_found_30 (by assumption) ⟨rfl, by omega, by omega⟩ (hg.2.2.2 s (by omega)).2.1 ?_
          refine mx_iload_n (i := 2) (hi := rfl) (hl := rfl) (hd := dX10_found_31) ?_
          refine mx_cmpN_ne 51 dX10_found_32 (by decide) (by have := hg.1.2.2 s (by omega); omega) (by omega) (fun c32 => ?_) (fun c32 => ?_)
          · skip
            refine mx_iincE (i := 4) (ls' := [some (.ref g), some (.int (nI p)), some (.int (nI k)), some (.int (nI q)), some (.int (nI (s + 1)))]) 1 dX10_found_51 rfl (by decide) (by decide) rfl rfl ?_
            refine mx_goto (tgt := 3) dX10_found_54 (by decide) ?_
            exact ih (s + 1) (by omega) (by omega) (by rw [hx, show gN v - s = gN v - (s + 1) + 1 by omega, gIxF, if_neg (by omega)])
          · skip
            refine mx_aload_n (i := 0) (hi := rfl) (hl := rfl) (hd := dX10_found_35) ?_
            refine mx_iload (i := 4) (hl := rfl) (hd := dX10_found_36) ?_
            refine mx_callSp (As := [.int (nI s)]) (rest := [.ref g]) dX10_found_38 (mt_at G I s) km_X10_at rfl k_1180 k_1181 rfl rfl (Nat.le_of_ble_eq_true rfl) (by decide) ?_
            refine mx_iconstN 2 dX10_found_41 (by decide) ?_
            refine mx_iaddN dX10_found_42 ?_
            refine mx_ialdV ((3 + 4 * s) + 2) (nI (gT v s)) dX10_found_43 (by assumption) ⟨rfl, by omega, by omega⟩ (hg.2.2.2 s (by omega)).2.2.1 ?_
            refine mx_iload_n (i := 3) (hi := rfl) (hl := rfl) (hd := dX10_found_44) ?_
            refine mx_cmpN_ne 51 dX10_found_45 (by decide) (by have := hg.1.2.2 s (by omega); omega) (by omega) (fun c45 => ?_) (fun c45 => ?_)
            · skip
              refine mx_iincE (i := 4) (ls' := [some (.ref g), some (.int (nI p)), some (.int (nI k)), some (.int (nI q)), some (.int (nI (s + 1)))]) 1 dX10_found_51 rfl (by decide) (by decide) rfl rfl ?_
              refine mx_goto (tgt := 3) dX10_found_54 (by decide) ?_
              exact ih (s + 1) (by omega) (by omega) (by rw [hx, show gN v - s = gN v - (s + 1) + 1 by omega, gIxF, if_neg (by omega)])
            · skip
              refine mx_iload (i := 4) (hl := rfl) (hd := dX10_found_48) ?_
              exact mx_iret dX10_found_50 rfl rfl (⟨by rw [hx, show gN v - s = gN v - (s + 1) + 1 by omega, gIxF, if_pos (by omega)]; rfl, rfl, rfl⟩)
  refine mx_iconstN 0 dX10_found_0 (by decide) ?_
  refine mx_istoreE (i := 4) (ls' := [some (.ref g), some (.int (nI p)), some (.int (nI k)), some (.int (nI q)), some (.int (nI 0))]) (hd := dX10_found_1) (hn := by decide) (hok := rfl) (hls := rfl) ?_
  exact L3 _ 0 (Nat.lt_succ_self _) (Nat.zero_le _) rfl

theorem mt_foundR (G : mx_G) (I : mx_I) (g : Nat) (v : Gr) (ht : mx_tg G g = 1) (hl : mx_ln G g = 143) (hg : gaF (I g) v) (p k q : Int32) (hp : 0 ≤ p.toInt) (hk : 0 ≤ k.toInt) (hq : 0 ≤ q.toInt) : mx_CTp yX10_found mX10_found 2 [.ref g, .int p, .int k, .int q] G I (some (.int (oI (gIx v p.toInt.toNat k.toInt.toNat q.toInt.toNat)))) :=
  (mt_found G I g v ht hl hg p.toInt.toNat k.toInt.toNat q.toInt.toNat (tn31 _) (tn31 _) (tn31 _)).eq (by rw [mx_nn hp, mx_nn hk, mx_nn hq]) rfl

set_option maxHeartbeats 4000000 in
set_option maxRecDepth 100000 in
theorem mt_add (G : mx_G) (I : mx_I) (g : Nat) (v : Gr) (ht : mx_tg G g = 1) (hl : mx_ln G g = 143) (hg : gaF (I g) v) (p k q c : Nat) (hp : p < 8) (hk : k < 4) (hq : q < 8) (hc : 1 ≤ c ∧ c ≤ 9) (h24 : gN v ≤ 24) : mx_CTi yX10_add mX10_add 2 [.ref g, .int (nI p), .int (nI k), .int (nI q), .int (nI c)] G I (fun rv I1 => rv = some (.int (nI (gN v))) ∧ gaF (I1 g) (gPut v p k q c) ∧ gxF (I g) (I1 g) ∧ mx_fr I I1 g (g + 1)) := by
  refine mx_start (k := 1) (by decide) rfl rfl (fun h => nomatch h) (Nat.le_of_ble_eq_true rfl) ?_
  show mx_V mX10_add mx_S0 2 0 0 0 [some (.ref g), some (.int (nI p)), some (.int (nI k)), some (.int (nI q)), some (.int (nI c)), none] [] G I (fun rv Gz Iz => (fun rv I1 => rv = some (.int (nI (gN v))) ∧ gaF (I1 g) (gPut v p k q c) ∧ gxF (I g) (I1 g) ∧ mx_fr I I1 g (g + 1)) rv Iz ∧ Gz = G) (fun _ _ _ => False)
  have hgw := hg.1
  obtain ⟨hgP, hgN, hgb⟩ := hgw
  refine mx_aload_n (i := 0) (hi := rfl) (hl := rfl) (hd := dX10_add_0) ?_
  refine mx_iconstN 1 dX10_add_1 (by decide) ?_
  refine mx_ialdV 1 (nI (gN v)) dX10_add_2 (by assumption) ⟨rfl, by omega, by omega⟩ hg.2.2.1 ?_
  refine mx_callSp (As := [.int (nI (gN v))]) (rest := []) dX10_add_3 (mt_at G I (gN v)) km_X10_at rfl k_1180 k_1181 rfl rfl (Nat.le_of_ble_eq_true rfl) (by decide) ?_
  refine mx_istoreE (i := 5) (ls' := [some (.ref g), some (.int (nI p)), some (.int (nI k)), some (.int (nI q)), some (.int (nI c)), some (.int (nI (3 + 4 * (gN v))))]) (hd := dX10_add_6) (hn := by decide) (hok := rfl) (hls := rfl) ?_
  refine mx_aload_n (i := 0) (hi := rfl) (hl := rfl) (hd := dX10_add_8) ?_
  refine mx_iload (i := 5) (hl := rfl) (hd := dX10_add_9) ?_
  refine mx_iload_n (i := 1) (hi := rfl) (hl := rfl) (hd := dX10_add_11) ?_
  refine mx_iast (3 + 4 * (gN v)) dX10_add_12 (by assumption) ⟨rfl, by omega, by omega⟩ ?_
  refine mx_aload_n (i := 0) (hi := rfl) (hl := rfl) (hd := dX10_add_13) ?_
  refine mx_iload (i := 5) (hl := rfl) (hd := dX10_add_14) ?_
  refine mx_iconstN 1 dX10_add_16 (by decide) ?_
  refine mx_iaddN dX10_add_17 ?_
  refine mx_iload_n (i := 2) (hi := rfl) (hl := rfl) (hd := dX10_add_18) ?_
  refine mx_iast ((3 + 4 * (gN v)) + 1) dX10_add_19 (by assumption) ⟨rfl, by omega, by omega⟩ ?_
  refine mx_aload_n (i := 0) (hi := rfl) (hl := rfl) (hd := dX10_add_20) ?_
  refine mx_iload (i := 5) (hl := rfl) (hd := dX10_add_21) ?_
  refine mx_iconstN 2 dX10_add_23 (by decide) ?_
  refine mx_iaddN dX10_add_24 ?_
  refine mx_iload_n (i := 3) (hi := rfl) (hl := rfl) (hd := dX10_add_25) ?_
  refine mx_iast ((3 + 4 * (gN v)) + 2) dX10_add_26 (by assumption) ⟨rfl, by omega, by omega⟩ ?_
  refine mx_aload_n (i := 0) (hi := rfl) (hl := rfl) (hd := dX10_add_27) ?_
  refine mx_iload (i := 5) (hl := rfl) (hd := dX10_add_28) ?_
  refine mx_iconstN 3 dX10_add_30 (by decide) ?_
  refine mx_iaddN dX10_add_31 ?_
  refine mx_iload (i := 4) (hl := rfl) (hd := dX10_add_32) ?_
  refine mx_iast ((3 + 4 * (gN v)) + 3) dX10_add_34 (by assumption) ⟨rfl, by omega, by omega⟩ ?_
  refine mx_aload_n (i := 0) (hi := rfl) (hl := rfl) (hd := dX10_add_35) ?_
  refine mx_iconstN 1 dX10_add_36 (by decide) ?_
  refine mx_dup2 (hva := rfl) (hvb := rfl) (hd := dX10_add_37) ?_
  refine mx_ialdV 1 (nI (gN v)) dX10_add_38 (by assumption) ⟨rfl, by omega, by omega⟩ (by rw [mx_u_at, if_neg (by omega), mx_u_at, if_neg (by omega), mx_u_at, if_neg (by omega), mx_u_at, if_neg (by omega)]; exact hg.2.2.1) ?_
  refine mx_iconstN 1 dX10_add_39 (by decide) ?_
  refine mx_iaddN dX10_add_40 ?_
  refine mx_iast 1 dX10_add_41 (by assumption) ⟨rfl, by omega, by omega⟩ ?_
  refine mx_aload_n (i := 0) (hi := rfl) (hl := rfl) (hd := dX10_add_42) ?_
  refine mx_iconstN 1 dX10_add_43 (by decide) ?_
  refine mx_ialdV 1 (nI (gN v + 1)) dX10_add_44 (by assumption) ⟨rfl, by omega, by omega⟩ (by rw [mx_u_at, if_pos ⟨rfl, rfl⟩]) ?_
  refine mx_iconstN 1 dX10_add_45 (by decide) ?_
  refine mx_isubN dX10_add_46 (by omega) ?_
  refine mx_iret dX10_add_47 rfl rfl (⟨⟨rfl, hg.put h24 hp hk hq hc ?_ ?_ ?_ ?_ ?_ (fun j h1 h2 => ?_), fun j hj => ?_, ((((((mx_fr.rf _ _ _).u (by omega)).u (by omega)).u (by omega)).u (by omega)).u (by omega))⟩, rfl⟩)
  · rw [mx_u_at, if_pos ⟨rfl, rfl⟩]
  · rw [mx_u_at, if_neg (by omega), mx_u_at, if_neg (by omega), mx_u_at, if_neg (by omega), mx_u_at, if_neg (by omega), mx_u_at, if_pos ⟨rfl, rfl⟩]
  · rw [mx_u_at, if_neg (by omega), mx_u_at, if_neg (by omega), mx_u_at, if_neg (by omega), mx_u_at, if_pos ⟨rfl, rfl⟩]
  · rw [mx_u_at, if_neg (by omega), mx_u_at, if_neg (by omega), mx_u_at, if_pos ⟨rfl, rfl⟩]
  · rw [mx_u_at, if_neg (by omega), mx_u_at, if_pos ⟨rfl, rfl⟩]
  · rw [mx_u_at, if_neg (by omega), mx_u_at, if_neg (by omega), mx_u_at, if_neg (by omega), mx_u_at, if_neg (by omega), mx_u_at, if_neg (by omega)]
  · rw [mx_u_at, if_neg (by omega), mx_u_at, if_neg (by omega), mx_u_at, if_neg (by omega), mx_u_at, if_neg (by omega), mx_u_at, if_neg (by omega)]

set_option maxHeartbeats 4000000 in
set_option maxRecDepth 100000 in
theorem mt_cut (G : mx_G) (I : mx_I) (g : Nat) (v : Gr) (ht : mx_tg G g = 1) (hl : mx_ln G g = 143) (hg : gaF (I g) v) (i : Nat) (hi : i < gN v) : mx_CTi yX10_cut mX10_cut 2 [.ref g, .int (nI i)] G I (fun rv I1 => rv = none ∧ gaF (I1 g) (gDrop v i) ∧ gxF (I g) (I1 g) ∧ mx_fr I I1 g (g + 1)) := by
  refine mx_start (k := 1) (by decide) rfl rfl (fun h => nomatch h) (Nat.le_of_ble_eq_true rfl) ?_
  show mx_V mX10_cut mx_S0 2 0 0 0 [some (.ref g), some (.int (nI i)), none] [] G I (fun rv Gz Iz => (fun rv I1 => rv = none ∧ gaF (I1 g) (gDrop v i) ∧ gxF (I g) (I1 g) ∧ mx_fr I I1 g (g + 1)) rv Iz ∧ Gz = G) (fun _ _ _ => False)
  have hgw := hg.1
  obtain ⟨hgP, hgN, hgb⟩ := hgw
  have L12 : ∀ (fq : Nat) (j : Nat) (I1 : mx_I), 3 + 4 * (gN v - 1) - j < fq → (3 + 4 * i ≤ j) → (j ≤ 3 + 4 * (gN v - 1)) → (I1 g 1 = nI (gN v - 1)) → (∀ k, 3 + 4 * i ≤ k → k < j → I1 g k = I g (k + 4)) → (∀ k, j ≤ k → I1 g k = I g k) → (∀ k, k ≠ 1 → k < 3 + 4 * i → I1 g k = I g k) → (mx_fr I I1 g (g + 1)) → mx_V mX10_cut mx_S0 2 0 0 12 [some (.ref g), some (.int (nI i)), some (.int (nI j))] [] G I1 (fun rv Gz Iz => (fun rv I1 => rv = none ∧ gaF (I1 g) (gDrop v i) ∧ gxF (I g) (I1 g) ∧ mx_fr I I1 g (g + 1)) rv Iz ∧ Gz = G) (fun _ _ _ => False) := by
    intro fq
    induction fq with
    | zero => intro j I1 hfu; exact absurd hfu (Nat.not_lt_zero _)
    | succ fq ih =>
      intro j I1 hfu hj1 hj2 e1 el eh eo hfr
      refine mx_iload_n (i := 2) (hi := rfl) (hl := rfl) (hd := dX10_cut_12) ?_
      refine mx_aload_n (i := 0) (hi := rfl) (hl := rfl) (hd := dX10_cut_13) ?_
      refine mx_iconstN 1 dX10_cut_14 (by decide) ?_
      refine mx_ialdV 1 (nI (gN v - 1)) dX10_cut_15 (by assumption) ⟨rfl, by omega, by omega⟩ e1 ?_
      refine mx_callSp (As := [.int (nI (gN v - 1))]) (rest := [.int (nI j)]) dX10_cut_16 (mt_at G I1 (gN v - 1)) km_X10_at rfl k_1180 k_1181 rfl rfl (Nat.le_of_ble_eq_true rfl) (by decide) ?_
      refine mx_cmpN_ge 36 dX10_cut_19 (by decide) (by omega) (by omega) (fun c19 => ?_) (fun c19 => ?_)
      · skip
        exact mx_vret dX10_cut_36 rfl (⟨⟨rfl, hg.drop hi e1 (eo 0 (by decide) (by omega)) (fun k h1 h2 => eo k (by omega) h2) (fun k h1 h2 => el k h1 (by omega)), fun k hk => hk.elim (fun q => eo k (by omega) (by omega)) (fun q => eh k (by omega)), hfr⟩, rfl⟩)
      · skip
        refine mx_aload_n (i := 0) (hi := rfl) (hl := rfl) (hd := dX10_cut_22) ?_
        refine mx_iload_n (i := 2) (hi := rfl) (hl := rfl) (hd := dX10_cut_23) ?_
        refine mx_aload_n (i := 0) (hi := rfl) (hl := rfl) (hd := dX10_cut_24) ?_
        refine mx_iload_n (i := 2) (hi := rfl) (hl := rfl) (hd := dX10_cut_25) ?_
        refine mx_iconstN 4 dX10_cut_26 (by decide) ?_
        refine mx_iaddN dX10_cut_27 ?_
        refine mx_ialdV (j + 4) (I g (j + 4) : Int32) dX10_cut_28 (by assumption) ⟨rfl, by omega, by omega⟩ (eh _ (by omega)) ?_
        refine mx_iast j dX10_cut_29 (by assumption) ⟨rfl, by omega, by omega⟩ ?_
        refine mx_iincE (i := 2) (ls' := [some (.ref g), some (.int (nI i)), some (.int (nI (j + 1)))]) 1 dX10_cut_30 rfl (by decide) (by decide) rfl rfl ?_
        refine mx_goto (tgt := 12) dX10_cut_33 (by decide) ?_
        exact ih (j + 1) _ (by omega) (by omega) (by omega) (by rw [mx_u_at, if_neg (by omega)]; exact e1) (fun k h1 h2 => by
          by_cases e : k = j
          · rw [e, mx_u_at, if_pos ⟨rfl, rfl⟩]
          · rw [mx_u_at, if_neg (fun q => e q.2)]; exact el k h1 (by omega)) (fun k h1 => by rw [mx_u_at, if_neg (by omega)]; exact eh k (by omega)) (fun k h1 h2 => by rw [mx_u_at, if_neg (by omega)]; exact eo k h1 h2) (hfr.u (by omega))
  refine mx_aload_n (i := 0) (hi := rfl) (hl := rfl) (hd := dX10_cut_0) ?_
  refine mx_iconstN 1 dX10_cut_1 (by decide) ?_
  refine mx_dup2 (hva := rfl) (hvb := rfl) (hd := dX10_cut_2) ?_
  refine mx_ialdV 1 (nI (gN v)) dX10_cut_3 (by assumption) ⟨rfl, by omega, by omega⟩ hg.2.2.1 ?_
  refine mx_iconstN 1 dX10_cut_4 (by decide) ?_
  refine mx_isubN dX10_cut_5 (by omega) ?_
  refine mx_iast 1 dX10_cut_6 (by assumption) ⟨rfl, by omega, by omega⟩ ?_
  refine mx_iload_n (i := 1) (hi := rfl) (hl := rfl) (hd := dX10_cut_7) ?_
  refine mx_callSp (As := [.int (nI i)]) (rest := []) dX10_cut_8 (mt_at G (mx_u I g 1 (nI ((gN v) - 1))) i) km_X10_at rfl k_1180 k_1181 rfl rfl (Nat.le_of_ble_eq_true rfl) (by decide) ?_
  refine mx_istoreE_n (i := 2) (ls' := [some (.ref g), some (.int (nI i)), some (.int (nI (3 + 4 * i)))]) (hi := rfl) (hd := dX10_cut_11) (hn := by decide) (hok := rfl) (hls := rfl) ?_
  exact L12 _ (3 + 4 * i) _ (Nat.lt_succ_self _) (Nat.le_refl _) (by omega) (by rw [mx_u_at, if_pos ⟨rfl, rfl⟩]) (fun k h1 h2 => absurd h2 (by omega)) (fun k h1 => by rw [mx_u_at, if_neg (by omega)]) (fun k h1 h2 => by rw [mx_u_at, if_neg (by omega)]) ((mx_fr.rf _ _ _).u (by omega))

set_option maxHeartbeats 4000000 in
set_option maxRecDepth 100000 in
theorem mt_turnOn (G : mx_G) (I : mx_I) (g : Nat) (v : Gr) (ht : mx_tg G g = 1) (hl : mx_ln G g = 143) (hg : gaF (I g) v) (i : Nat) (hi : i < gN v) : mx_CTi yX10_turnOn mX10_turnOn 2 [.ref g, .int (nI i)] G I (fun rv I1 => rv = some (.int (nI (gT v i))) ∧ gaF (I1 g) (gRev v i) ∧ gxF (I g) (I1 g) ∧ mx_fr I I1 g (g + 1)) := by
  refine mx_start (k := 1) (by decide) rfl rfl (fun h => nomatch h) (Nat.le_of_ble_eq_true rfl) ?_
  show mx_V mX10_turnOn mx_S0 2 0 0 0 [some (.ref g), some (.int (nI i)), none] [] G I (fun rv Gz Iz => (fun rv I1 => rv = some (.int (nI (gT v i))) ∧ gaF (I1 g) (gRev v i) ∧ gxF (I g) (I1 g) ∧ mx_fr I I1 g (g + 1)) rv Iz ∧ Gz = G) (fun _ _ _ => False)
  have hgw := hg.1
  obtain ⟨hgP, hgN, hgb⟩ := hgw
  refine mx_aload_n (i := 0) (hi := rfl) (hl := rfl) (hd := dX10_turnOn_0) ?_
  refine mx_iload_n (i := 1) (hi := rfl) (hl := rfl) (hd := dX10_turnOn_1) ?_
  refine mx_callSp (As := [.int (nI i)]) (rest := [.ref g]) dX10_turnOn_2 (mt_at G I i) km_X10_at rfl k_1180 k_1181 rfl rfl (Nat.le_of_ble_eq_true rfl) (by decide) ?_
  refine mx_ialdV (3 + 4 * i) (nI (gF v i)) dX10_turnOn_5 (by assumption) ⟨rfl, by omega, by omega⟩ (hg.2.2.2 i (by omega)).1 ?_
  refine mx_istoreE_n (i := 2) (ls' := [some (.ref g), some (.int (nI i)), some (.int (nI (gF v i)))]) (hi := rfl) (hd := dX10_turnOn_6) (hn := by decide) (hok := rfl) (hls := rfl) ?_
  refine mx_aload_n (i := 0) (hi := rfl) (hl := rfl) (hd := dX10_turnOn_7) ?_
  refine mx_iload_n (i := 1) (hi := rfl) (hl := rfl) (hd := dX10_turnOn_8) ?_
  refine mx_callSp (As := [.int (nI i)]) (rest := [.ref g]) dX10_turnOn_9 (mt_at G I i) km_X10_at rfl k_1180 k_1181 rfl rfl (Nat.le_of_ble_eq_true rfl) (by decide) ?_
  refine mx_aload_n (i := 0) (hi := rfl) (hl := rfl) (hd := dX10_turnOn_12) ?_
  refine mx_iload_n (i := 1) (hi := rfl) (hl := rfl) (hd := dX10_turnOn_13) ?_
  refine mx_callSp (As := [.int (nI i)]) (rest := [.ref g, .int (nI (3 + 4 * i)), .ref g]) dX10_turnOn_14 (mt_at G I i) km_X10_at rfl k_1180 k_1181 rfl rfl (Nat.le_of_ble_eq_true rfl) (by decide) ?_
  refine mx_iconstN 2 dX10_turnOn_17 (by decide) ?_
  refine mx_iaddN dX10_turnOn_18 ?_
  refine mx_ialdV ((3 + 4 * i) + 2) (nI (gT v i)) dX10_turnOn_19 (by assumption) ⟨rfl, by omega, by omega⟩ (hg.2.2.2 i (by omega)).2.2.1 ?_
  refine mx_iast (3 + 4 * i) dX10_turnOn_20 (by assumption) ⟨rfl, by omega, by omega⟩ ?_
  refine mx_aload_n (i := 0) (hi := rfl) (hl := rfl) (hd := dX10_turnOn_21) ?_
  refine mx_iload_n (i := 1) (hi := rfl) (hl := rfl) (hd := dX10_turnOn_22) ?_
  refine mx_callSp (As := [.int (nI i)]) (rest := [.ref g]) dX10_turnOn_23 (mt_at G (mx_u I g (3 + 4 * i) (nI (gT v i))) i) km_X10_at rfl k_1180 k_1181 rfl rfl (Nat.le_of_ble_eq_true rfl) (by decide) ?_
  refine mx_iconstN 2 dX10_turnOn_26 (by decide) ?_
  refine mx_iaddN dX10_turnOn_27 ?_
  refine mx_iload_n (i := 2) (hi := rfl) (hl := rfl) (hd := dX10_turnOn_28) ?_
  refine mx_iast ((3 + 4 * i) + 2) dX10_turnOn_29 (by assumption) ⟨rfl, by omega, by omega⟩ ?_
  refine mx_aload_n (i := 0) (hi := rfl) (hl := rfl) (hd := dX10_turnOn_30) ?_
  refine mx_iload_n (i := 1) (hi := rfl) (hl := rfl) (hd := dX10_turnOn_31) ?_
  refine mx_callSp (As := [.int (nI i)]) (rest := [.ref g]) dX10_turnOn_32 (mt_at G (mx_u (mx_u I g (3 + 4 * i) (nI (gT v i))) g ((3 + 4 * i) + 2) (nI (gF v i))) i) km_X10_at rfl k_1180 k_1181 rfl rfl (Nat.le_of_ble_eq_true rfl) (by decide) ?_
  refine mx_ialdV (3 + 4 * i) (nI (gT v i)) dX10_turnOn_35 (by assumption) ⟨rfl, by omega, by omega⟩ (by rw [mx_u_at, if_neg (by omega), mx_u_at, if_pos ⟨rfl, rfl⟩]) ?_
  refine mx_iret dX10_turnOn_36 rfl rfl (⟨⟨rfl, hg.rev hi ?_ ?_ (fun j h1 h2 => ?_), fun j hj => ?_, (((mx_fr.rf _ _ _).u (by omega)).u (by omega))⟩, rfl⟩)
  · rw [mx_u_at, if_neg (by omega), mx_u_at, if_pos ⟨rfl, rfl⟩]
  · rw [mx_u_at, if_pos ⟨rfl, rfl⟩]
  · rw [mx_u_at, if_neg (by omega), mx_u_at, if_neg (by omega)]
  · rw [mx_u_at, if_neg (by omega), mx_u_at, if_neg (by omega)]

def swF (k l x : Nat) : Nat := if x = k then l else if x = l then k else x
theorem gaF.swp {f f' : Nat → Int32} {v : Gr} {k l : Nat} (h : gaF f v) (hk : k < 4) (hl : l < 4) (ea : ∀ s, s < gN v → f' (3 + 4 * s + 1) = nI (gSw k l (gK v s))) (eo : ∀ j, (∀ s, s < gN v → j ≠ 3 + 4 * s + 1) → f' j = f j) : gaF f' (gSwp v k l) := by
  obtain ⟨w, h2, h3, h4⟩ := h
  refine ⟨w.swp hk hl, by rw [eo _ (fun s _ => by omega)]; exact h2, by rw [eo _ (fun s _ => by omega)]; exact h3, fun s hs => ?_⟩
  obtain ⟨x1, x2, x3, x4⟩ := h4 s hs
  exact ⟨by rw [eo _ (fun s _ => by omega)]; exact x1, ea s hs, by rw [eo _ (fun s _ => by omega)]; exact x3, by rw [eo _ (fun s _ => by omega)]; exact x4⟩
theorem gsw31 {k l x : Nat} (hk : k < 2 ^ 30) (hl : l < 2 ^ 30) (hx : x < 4) : gSw k l x < 2 ^ 31 := by
  unfold gSw
  split
  · omega
  · split <;> omega
theorem gSw_ne (k l x : Nat) : (gSw k l x = x) = ¬ (k ≠ l ∧ (x = k ∨ x = l)) := by
  unfold gSw
  apply propext
  split
  · omega
  · split <;> omega

set_option maxHeartbeats 4000000 in
set_option maxRecDepth 100000 in
theorem mt_exchangeOn (G : mx_G) (I : mx_I) (g : Nat) (v : Gr) (ht : mx_tg G g = 1) (hl : mx_ln G g = 143) (hg : gaF (I g) v) (k l : Nat) (hk : k < 4) (hl2 : l < 4) : mx_CTi yX10_exchangeOn mX10_exchangeOn 2 [.ref g, .int (nI k), .int (nI l)] G I (fun rv I1 => rv = some (.int (nI (gCh (gK v) k l (gN v)))) ∧ gaF (I1 g) (gSwp v k l) ∧ gxF (I g) (I1 g) ∧ mx_fr I I1 g (g + 1)) := by
  refine mx_start (k := 4) (by decide) rfl rfl (fun h => nomatch h) (Nat.le_of_ble_eq_true rfl) ?_
  show mx_V mX10_exchangeOn mx_S0 2 0 0 0 [some (.ref g), some (.int (nI k)), some (.int (nI l)), none, none, none, none] [] G I (fun rv Gz Iz => (fun rv I1 => rv = some (.int (nI (gCh (gK v) k l (gN v)))) ∧ gaF (I1 g) (gSwp v k l) ∧ gxF (I g) (I1 g) ∧ mx_fr I I1 g (g + 1)) rv Iz ∧ Gz = G) (fun _ _ _ => False)
  have hgw := hg.1
  obtain ⟨hgP, hgN, hgb⟩ := hgw
  have L5 : ∀ (fq : Nat) (s n : Nat) (I1 : mx_I), gN v - s < fq → (s ≤ gN v) → (n = gCh (gK v) k l s) → (∀ t, t < s → I1 g (3 + 4 * t + 1) = nI (gSw k l (gK v t))) → (∀ j, (∀ t, t < s → j ≠ 3 + 4 * t + 1) → I1 g j = I g j) → (mx_fr I I1 g (g + 1)) → mx_V mX10_exchangeOn mx_S0 2 0 0 5 [some (.ref g), some (.int (nI k)), some (.int (nI l)), some (.int (nI n)), some (.int (nI s)), none, none] [] G I1 (fun rv Gz Iz => (fun rv I1 => rv = some (.int (nI (gCh (gK v) k l (gN v)))) ∧ gaF (I1 g) (gSwp v k l) ∧ gxF (I g) (I1 g) ∧ mx_fr I I1 g (g + 1)) rv Iz ∧ Gz = G) (fun _ _ _ => False) := by
    intro fq
    induction fq with
    | zero => intro s n I1 hfu; exact absurd hfu (Nat.not_lt_zero _)
    | succ fq ih =>
      intro s n I1 hfu hs hx ea eo hfr
      have J46 : ∀ (_ : Unit), (s < gN v) → mx_V mX10_exchangeOn mx_S0 2 0 0 46 [some (.ref g), some (.int (nI k)), some (.int (nI l)), some (.int (nI n)), some (.int (nI s)), some (.int (nI (gK v s))), none] [.int (nI (gSw k l (gK v s)))] G I1 (fun rv Gz Iz => (fun rv I1 => rv = some (.int (nI (gCh (gK v) k l (gN v)))) ∧ gaF (I1 g) (gSwp v k l) ∧ gxF (I g) (I1 g) ∧ mx_fr I I1 g (g + 1)) rv Iz ∧ Gz = G) (fun _ _ _ => False) := by
        intro _ hsn
        refine mx_istoreE (i := 6) (ls' := [some (.ref g), some (.int (nI k)), some (.int (nI l)), some (.int (nI n)), some (.int (nI s)), some (.int (nI (gK v s))), some (.int (nI (gSw k l (gK v s))))]) (hd := dX10_exchangeOn_46) (hn := by decide) (hok := rfl) (hls := rfl) ?_
        refine mx_aload_n (i := 0) (hi := rfl) (hl := rfl) (hd := dX10_exchangeOn_48) ?_
        refine mx_iload (i := 4) (hl := rfl) (hd := dX10_exchangeOn_49) ?_
        refine mx_callSp (As := [.int (nI s)]) (rest := [.ref g]) dX10_exchangeOn_51 (mt_at G I1 s) km_X10_at rfl k_1180 k_1181 rfl rfl (Nat.le_of_ble_eq_true rfl) (by decide) ?_
        refine mx_iconstN 1 dX10_exchangeOn_54 (by decide) ?_
        refine mx_iaddN dX10_exchangeOn_55 ?_
        refine mx_iload (i := 6) (hl := rfl) (hd := dX10_exchangeOn_56) ?_
        refine mx_iast ((3 + 4 * s) + 1) dX10_exchangeOn_58 (by assumption) ⟨rfl, by omega, by omega⟩ ?_
        refine mx_iload_n (i := 3) (hi := rfl) (hl := rfl) (hd := dX10_exchangeOn_59) ?_
        refine mx_iload (i := 6) (hl := rfl) (hd := dX10_exchangeOn_60) ?_
        refine mx_iload (i := 5) (hl := rfl) (hd := dX10_exchangeOn_62) ?_
        refine mx_cmpN_ne 71 dX10_exchangeOn_64 (by decide) (gsw31 (by omega) (by omega) (hgb s hsn).2.1) (by have := hgb s hsn; omega) (fun c64 => ?_) (fun c64 => ?_)
        · skip
          refine mx_iconstN 1 dX10_exchangeOn_71 (by decide) ?_
          refine mx_iaddN dX10_exchangeOn_72 ?_
          refine mx_istoreE_n (i := 3) (ls' := [some (.ref g), some (.int (nI k)), some (.int (nI l)), some (.int (nI (n + 1))), some (.int (nI s)), some (.int (nI (gK v s))), some (.int (nI (gSw k l (gK v s))))]) (hi := rfl) (hd := dX10_exchangeOn_73) (hn := by decide) (hok := rfl) (hls := rfl) ?_
          refine mx_iincE (i := 4) (ls' := [some (.ref g), some (.int (nI k)), some (.int (nI l)), some (.int (nI (n + 1))), some (.int (nI (s + 1))), some (.int (nI (gK v s))), some (.int (nI (gSw k l (gK v s))))]) 1 dX10_exchangeOn_74 rfl (by decide) (by decide) rfl rfl ?_
          refine mx_goto (tgt := 5) dX10_exchangeOn_77 (by decide) ?_
          refine mx_leS (ls' := [some (.ref g), some (.int (nI k)), some (.int (nI l)), some (.int (nI (n + 1))), some (.int (nI (s + 1))), none, none]) ⟨rfl, rfl, rfl, rfl, rfl, trivial⟩ ?_
          exact ih (s + 1) _ _ (by omega) (by omega) (by rw [hx, gCh, if_pos (by rw [gSw_ne] at c64; exact Classical.not_not.mp c64)]) (fun t ht => by
            by_cases e : t = s
            · rw [e, mx_u_at, if_pos ⟨rfl, rfl⟩]
            · rw [mx_u_at, if_neg (by omega)]; exact ea t (by omega)) (fun j hj => by
            have := hj s (by omega)
            rw [mx_u_at, if_neg (by omega)]; exact eo j (fun t ht => hj t (by omega))) (hfr.u (by omega))
        · skip
          refine mx_iconstN 0 dX10_exchangeOn_67 (by decide) ?_
          refine mx_goto (tgt := 72) dX10_exchangeOn_68 (by decide) ?_
          refine mx_iaddN dX10_exchangeOn_72 ?_
          refine mx_istoreE_n (i := 3) (ls' := [some (.ref g), some (.int (nI k)), some (.int (nI l)), some (.int (nI (n + 0))), some (.int (nI s)), some (.int (nI (gK v s))), some (.int (nI (gSw k l (gK v s))))]) (hi := rfl) (hd := dX10_exchangeOn_73) (hn := by decide) (hok := rfl) (hls := rfl) ?_
          refine mx_iincE (i := 4) (ls' := [some (.ref g), some (.int (nI k)), some (.int (nI l)), some (.int (nI (n + 0))), some (.int (nI (s + 1))), some (.int (nI (gK v s))), some (.int (nI (gSw k l (gK v s))))]) 1 dX10_exchangeOn_74 rfl (by decide) (by decide) rfl rfl ?_
          refine mx_goto (tgt := 5) dX10_exchangeOn_77 (by decide) ?_
          refine mx_leS (ls' := [some (.ref g), some (.int (nI k)), some (.int (nI l)), some (.int (nI (n + 0))), some (.int (nI (s + 1))), none, none]) ⟨rfl, rfl, rfl, rfl, rfl, trivial⟩ ?_
          exact ih (s + 1) _ _ (by omega) (by omega) (by rw [hx, gCh, if_neg (by rw [gSw_ne] at c64; exact c64)]) (fun t ht => by
            by_cases e : t = s
            · rw [e, mx_u_at, if_pos ⟨rfl, rfl⟩]
            · rw [mx_u_at, if_neg (by omega)]; exact ea t (by omega)) (fun j hj => by
            have := hj s (by omega)
            rw [mx_u_at, if_neg (by omega)]; exact eo j (fun t ht => hj t (by omega))) (hfr.u (by omega))
      refine mx_iload (i := 4) (hl := rfl) (hd := dX10_exchangeOn_5) ?_
      refine mx_aload_n (i := 0) (hi := rfl) (hl := rfl) (hd := dX10_exchangeOn_7) ?_
      refine mx_iconstN 1 dX10_exchangeOn_8 (by decide) ?_
      refine mx_ialdV 1 (nI (gN v)) dX10_exchangeOn_9 (by assumption) ⟨rfl, by omega, by omega⟩ (by rw [eo _ (fun t _ => by omega)]; exact hg.2.2.1) ?_
      refine mx_cmpN_ge 80 dX10_exchangeOn_10 (by decide) (by omega) (by omega) (fun c10 => ?_) (fun c10 => ?_)
      · skip
        refine mx_iload_n (i := 3) (hi := rfl) (hl := rfl) (hd := dX10_exchangeOn_80) ?_
        exact mx_iret dX10_exchangeOn_81 rfl rfl (⟨⟨by rw [hx, show s = gN v by omega], hg.swp hk hl2 (fun t ht => ea t (by omega)) (fun j hj => eo j (fun t ht => hj t (by omega))), fun j hj => eo j (fun t ht => by omega), hfr⟩, rfl⟩)
      · skip
        refine mx_aload_n (i := 0) (hi := rfl) (hl := rfl) (hd := dX10_exchangeOn_13) ?_
        refine mx_iload (i := 4) (hl := rfl) (hd := dX10_exchangeOn_14) ?_
        refine mx_callSp (As := [.int (nI s)]) (rest := [.ref g]) dX10_exchangeOn_16 (mt_at G I1 s) km_X10_at rfl k_1180 k_1181 rfl rfl (Nat.le_of_ble_eq_true rfl) (by decide) ?_
        refine mx_iconstN 1 dX10_exchangeOn_19 (by decide) ?_
        refine mx_iaddN dX10_exchangeOn_20 ?_
        refine mx_ialdV ((3 + 4 * s) + 1) (nI (gK v s)) dX10_exchangeOn_21 (by assumption) ⟨rfl, by omega, by omega⟩ (by rw [eo _ (fun t ht => by omega)]; exact (hg.2.2.2 s (by omega)).2.1) ?_
        refine mx_istoreE (i := 5) (ls' := [some (.ref g), some (.int (nI k)), some (.int (nI l)), some (.int (nI n)), some (.int (nI s)), some (.int (nI (gK v s))), none]) (hd := dX10_exchangeOn_22) (hn := by decide) (hok := rfl) (hls := rfl) ?_
        refine mx_iload (i := 5) (hl := rfl) (hd := dX10_exchangeOn_24) ?_
        refine mx_iload_n (i := 1) (hi := rfl) (hl := rfl) (hd := dX10_exchangeOn_26) ?_
        refine mx_cmpN_ne 34 dX10_exchangeOn_27 (by decide) (by have := hgb s (by omega); omega) (by omega) (fun c27 => ?_) (fun c27 => ?_)
        · skip
          refine mx_iload (i := 5) (hl := rfl) (hd := dX10_exchangeOn_34) ?_
          refine mx_iload_n (i := 2) (hi := rfl) (hl := rfl) (hd := dX10_exchangeOn_36) ?_
          refine mx_cmpN_ne 44 dX10_exchangeOn_37 (by decide) (by have := hgb s (by omega); omega) (by omega) (fun c37 => ?_) (fun c37 => ?_)
          · skip
            refine mx_iload (i := 5) (hl := rfl) (hd := dX10_exchangeOn_44) ?_
            refine mx_top (y := nI (gSw k l (gK v s))) (congrArg nI (Eq.symm (by unfold gSw; rw [if_neg c27, if_neg c37]))) ?_
            exact J46 () (by omega)
          · skip
            refine mx_iload_n (i := 1) (hi := rfl) (hl := rfl) (hd := dX10_exchangeOn_40) ?_
            refine mx_goto (tgt := 46) dX10_exchangeOn_41 (by decide) ?_
            refine mx_top (y := nI (gSw k l (gK v s))) (congrArg nI (Eq.symm (by unfold gSw; rw [if_neg c27, if_pos c37]))) ?_
            exact J46 () (by omega)
        · skip
          refine mx_iload_n (i := 2) (hi := rfl) (hl := rfl) (hd := dX10_exchangeOn_30) ?_
          refine mx_goto (tgt := 46) dX10_exchangeOn_31 (by decide) ?_
          refine mx_top (y := nI (gSw k l (gK v s))) (congrArg nI (Eq.symm (by unfold gSw; rw [if_pos c27]))) ?_
          exact J46 () (by omega)
  refine mx_iconstN 0 dX10_exchangeOn_0 (by decide) ?_
  refine mx_istoreE_n (i := 3) (ls' := [some (.ref g), some (.int (nI k)), some (.int (nI l)), some (.int (nI 0)), none, none, none]) (hi := rfl) (hd := dX10_exchangeOn_1) (hn := by decide) (hok := rfl) (hls := rfl) ?_
  refine mx_iconstN 0 dX10_exchangeOn_2 (by decide) ?_
  refine mx_istoreE (i := 4) (ls' := [some (.ref g), some (.int (nI k)), some (.int (nI l)), some (.int (nI 0)), some (.int (nI 0)), none, none]) (hd := dX10_exchangeOn_3) (hn := by decide) (hok := rfl) (hls := rfl) ?_
  exact L5 _ 0 0 _ (Nat.lt_succ_self _) (Nat.zero_le _) rfl (fun t ht => absurd ht (Nat.not_lt_zero _)) (fun j _ => rfl) (mx_fr.rf _ _ _)

theorem in_l {p : Int32} {a b : Int64} {x y : Int} (ha : a.toInt = x) (hb : b.toInt = y) : (a.toInt ≤ p.toInt64.toInt ∧ p.toInt64.toInt ≤ b.toInt) ↔ (x ≤ p.toInt ∧ p.toInt ≤ y) := by
  rw [Int32.toInt_toInt64, ha, hb]

set_option maxHeartbeats 4000000 in
set_option maxRecDepth 100000 in
theorem mt_whyNotAdd (G : mx_G) (I : mx_I) (g : Nat) (v : Gr) (ht : mx_tg G g = 1) (hl : mx_ln G g = 143) (hg : gaF (I g) v) (h24 : gN v ≤ 24) (p k q c : Int32) : mx_CTp yX10_whyNotAdd mX10_whyNotAdd 3 [.ref g, .int p, .int k, .int q, .int c] G I (some (.int (nI (gWhy v p k q c)))) := by
  refine mx_start (k := 0) (by decide) rfl rfl (fun h => nomatch h) (Nat.le_of_ble_eq_true rfl) ?_
  show mx_V mX10_whyNotAdd mx_S0 3 0 0 0 [some (.ref g), some (.int p), some (.int k), some (.int q), some (.int c)] [] G I (fun rv Gz Iz => rv = some (.int (nI (gWhy v p k q c))) ∧ Gz = G ∧ Iz = I) (fun _ _ _ => False)
  have hgw := hg.1
  obtain ⟨hgP, hgN, hgb⟩ := hgw
  refine mx_aload_n (i := 0) (hi := rfl) (hl := rfl) (hd := dX10_whyNotAdd_0) ?_
  refine mx_iload_n (i := 1) (hi := rfl) (hl := rfl) (hd := dX10_whyNotAdd_1) ?_
  refine mx_callSp (As := [.ref g, .int p]) (rest := []) dX10_whyNotAdd_2 (mt_isPerson G I g v ht hl hg p) km_X10_isPerson rfl k_1243 k_1244 rfl rfl (Nat.le_of_ble_eq_true rfl) (by decide) ?_
  refine mx_ifB_eq 16 dX10_whyNotAdd_5 (by decide) (fun c5 => ?_) (fun c5 => ?_)
  · skip
    refine mx_iconstN 1 dX10_whyNotAdd_16 (by decide) ?_
    exact mx_iret dX10_whyNotAdd_17 rfl rfl (⟨by unfold gWhy; rw [if_pos (by first | exact fun z => c5 z.1 | exact fun z => c13 z.2)], rfl, rfl⟩)
  · skip
    refine mx_aload_n (i := 0) (hi := rfl) (hl := rfl) (hd := dX10_whyNotAdd_8) ?_
    refine mx_iload_n (i := 3) (hi := rfl) (hl := rfl) (hd := dX10_whyNotAdd_9) ?_
    refine mx_callSp (As := [.ref g, .int q]) (rest := []) dX10_whyNotAdd_10 (mt_isPerson G I g v ht hl hg q) km_X10_isPerson rfl k_1243 k_1244 rfl rfl (Nat.le_of_ble_eq_true rfl) (by decide) ?_
    refine mx_ifB_ne 18 dX10_whyNotAdd_13 (by decide) (fun c13 => ?_) (fun c13 => ?_)
    · skip
      refine mx_iload_n (i := 1) (hi := rfl) (hl := rfl) (hd := dX10_whyNotAdd_18) ?_
      refine mx_iload_n (i := 3) (hi := rfl) (hl := rfl) (hd := dX10_whyNotAdd_19) ?_
      refine mx_icmp_eq (tgt := 48) dX10_whyNotAdd_20 (by decide) (fun c20 => ?_) (fun c20 => ?_)
      · skip
        refine mx_iconstN 2 dX10_whyNotAdd_48 (by decide) ?_
        exact mx_iret dX10_whyNotAdd_49 rfl rfl (⟨by unfold gWhy; rw [if_neg (fun z => z ⟨c5, c13⟩), if_pos (by first | exact Or.inl c20 | exact Or.inr (Or.inl c32) | exact Or.inr (Or.inr c45))], rfl, rfl⟩)
      · skip
        refine mx_iload_n (i := 2) (hi := rfl) (hl := rfl) (hd := dX10_whyNotAdd_23) ?_
        refine mx_i2l (hv := rfl) (hd := dX10_whyNotAdd_24) ?_
        refine mx_lconst (v := 0) (by decide) dX10_whyNotAdd_25 ?_
        refine mx_ldc2 (v := (3)) k_1238 dX10_whyNotAdd_26 ?_
        refine mx_callSp (As := [.long k.toInt64, .long (0 : Int64), .long (3)]) (rest := []) dX10_whyNotAdd_29 (mt_in G I (k.toInt64) (0 : Int64) (3 : Int64)) km_X10_in rfl k_1119 k_1120 rfl rfl (Nat.le_of_ble_eq_true rfl) (by decide) ?_
        refine mx_top (y := mx_b (decide (0 ≤ k.toInt ∧ k.toInt < 4))) (congrArg mx_b (decide_eq_decide.mpr ((in_l (x := 0) (y := 3) rfl rfl).trans (by omega)))) ?_
        refine mx_ifB_eq 48 dX10_whyNotAdd_32 (by decide) (fun c32 => ?_) (fun c32 => ?_)
        · skip
          refine mx_iconstN 2 dX10_whyNotAdd_48 (by decide) ?_
          exact mx_iret dX10_whyNotAdd_49 rfl rfl (⟨by unfold gWhy; rw [if_neg (fun z => z ⟨c5, c13⟩), if_pos (by first | exact Or.inl c20 | exact Or.inr (Or.inl c32) | exact Or.inr (Or.inr c45))], rfl, rfl⟩)
        · skip
          refine mx_iload (i := 4) (hl := rfl) (hd := dX10_whyNotAdd_35) ?_
          refine mx_i2l (hv := rfl) (hd := dX10_whyNotAdd_37) ?_
          refine mx_lconst (v := 1) (by decide) dX10_whyNotAdd_38 ?_
          refine mx_ldc2 (v := (9)) k_1277 dX10_whyNotAdd_39 ?_
          refine mx_callSp (As := [.long c.toInt64, .long (1 : Int64), .long (9)]) (rest := []) dX10_whyNotAdd_42 (mt_in G I (c.toInt64) (1 : Int64) (9 : Int64)) km_X10_in rfl k_1119 k_1120 rfl rfl (Nat.le_of_ble_eq_true rfl) (by decide) ?_
          refine mx_top (y := mx_b (decide (1 ≤ c.toInt ∧ c.toInt ≤ 9))) (congrArg mx_b (decide_eq_decide.mpr ((in_l (x := 1) (y := 9) rfl rfl).trans (by omega)))) ?_
          refine mx_ifB_ne 50 dX10_whyNotAdd_45 (by decide) (fun c45 => ?_) (fun c45 => ?_)
          · skip
            refine mx_aload_n (i := 0) (hi := rfl) (hl := rfl) (hd := dX10_whyNotAdd_50) ?_
            refine mx_iload_n (i := 1) (hi := rfl) (hl := rfl) (hd := dX10_whyNotAdd_51) ?_
            refine mx_iload_n (i := 2) (hi := rfl) (hl := rfl) (hd := dX10_whyNotAdd_52) ?_
            refine mx_iload_n (i := 3) (hi := rfl) (hl := rfl) (hd := dX10_whyNotAdd_53) ?_
            refine mx_callSp (As := [.ref g, .int p, .int k, .int q]) (rest := []) dX10_whyNotAdd_54 (mt_foundR G I g v ht hl hg p k q c5.1 c32.1 c13.1) km_X10_found rfl k_1177 k_1178 rfl rfl (Nat.le_of_ble_eq_true rfl) (by decide) ?_
            refine mx_bipush (v := (-9)) (by decide) dX10_whyNotAdd_57 ?_
            refine mx_icmp_ne (tgt := 70) dX10_whyNotAdd_59 (by decide) (fun c59 => ?_) (fun c59 => ?_)
            · skip
              refine mx_iconstN 3 dX10_whyNotAdd_70 (by decide) ?_
              refine mx_goto (tgt := 75) dX10_whyNotAdd_71 (by decide) ?_
              exact mx_iret dX10_whyNotAdd_75 rfl rfl (⟨by unfold gWhy; rw [if_neg (fun z => z ⟨c5, c13⟩), if_neg (fun z => z.elim c20 (fun z => z.elim (fun z => z c32) (fun z => z c45)))]; rw [if_pos (by first | exact Or.inl (fun z => c59 ((gIx_iff (by omega)).mpr z)) | exact Or.inr (by omega))], rfl, rfl⟩)
            · skip
              refine mx_aload_n (i := 0) (hi := rfl) (hl := rfl) (hd := dX10_whyNotAdd_62) ?_
              refine mx_iconstN 1 dX10_whyNotAdd_63 (by decide) ?_
              refine mx_ialdV 1 (nI (gN v)) dX10_whyNotAdd_64 (by assumption) ⟨rfl, by omega, by omega⟩ hg.2.2.1 ?_
              refine mx_bipushN 24 dX10_whyNotAdd_65 (by decide) ?_
              refine mx_cmpN_ne 74 dX10_whyNotAdd_67 (by decide) (by omega) (by omega) (fun c67 => ?_) (fun c67 => ?_)
              · skip
                refine mx_iconstN 0 dX10_whyNotAdd_74 (by decide) ?_
                exact mx_iret dX10_whyNotAdd_75 rfl rfl (⟨by unfold gWhy; rw [if_neg (fun z => z ⟨c5, c13⟩), if_neg (fun z => z.elim c20 (fun z => z.elim (fun z => z c32) (fun z => z c45)))]; rw [if_neg (fun z => z.elim (fun z => z ((gIx_iff (by omega)).mp c59)) (fun z => by omega))], rfl, rfl⟩)
              · skip
                refine mx_iconstN 3 dX10_whyNotAdd_70 (by decide) ?_
                refine mx_goto (tgt := 75) dX10_whyNotAdd_71 (by decide) ?_
                exact mx_iret dX10_whyNotAdd_75 rfl rfl (⟨by unfold gWhy; rw [if_neg (fun z => z ⟨c5, c13⟩), if_neg (fun z => z.elim c20 (fun z => z.elim (fun z => z c32) (fun z => z c45)))]; rw [if_pos (by first | exact Or.inl (fun z => c59 ((gIx_iff (by omega)).mpr z)) | exact Or.inr (by omega))], rfl, rfl⟩)
          · skip
            refine mx_iconstN 2 dX10_whyNotAdd_48 (by decide) ?_
            exact mx_iret dX10_whyNotAdd_49 rfl rfl (⟨by unfold gWhy; rw [if_neg (fun z => z ⟨c5, c13⟩), if_pos (by first | exact Or.inl c20 | exact Or.inr (Or.inl c32) | exact Or.inr (Or.inr c45))], rfl, rfl⟩)
    · skip
      refine mx_iconstN 1 dX10_whyNotAdd_16 (by decide) ?_
      exact mx_iret dX10_whyNotAdd_17 rfl rfl (⟨by unfold gWhy; rw [if_pos (by first | exact fun z => c5 z.1 | exact fun z => c13 z.2)], rfl, rfl⟩)

set_option maxHeartbeats 4000000 in
set_option maxRecDepth 100000 in
theorem mt_whyNotTurn (G : mx_G) (I : mx_I) (g : Nat) (v : Gr) (ht : mx_tg G g = 1) (hl : mx_ln G g = 143) (hg : gaF (I g) v) (p : Int32) : mx_CTp yX10_whyNotTurn mX10_whyNotTurn 3 [.ref g, .int p] G I (some (.int (nI (if ¬ (0 ≤ p.toInt ∧ p.toInt < (gN v : Int)) then 1 else if gIx v (gT v p.toInt.toNat) (gK v p.toInt.toNat) (gF v p.toInt.toNat) = none then 0 else 2)))) := by
  refine mx_start (k := 0) (by decide) rfl rfl (fun h => nomatch h) (Nat.le_of_ble_eq_true rfl) ?_
  show mx_V mX10_whyNotTurn mx_S0 3 0 0 0 [some (.ref g), some (.int p)] [] G I (fun rv Gz Iz => rv = some (.int (nI (if ¬ (0 ≤ p.toInt ∧ p.toInt < (gN v : Int)) then 1 else if gIx v (gT v p.toInt.toNat) (gK v p.toInt.toNat) (gF v p.toInt.toNat) = none then 0 else 2))) ∧ Gz = G ∧ Iz = I) (fun _ _ _ => False)
  have hgw := hg.1
  obtain ⟨hgP, hgN, hgb⟩ := hgw
  refine mx_aload_n (i := 0) (hi := rfl) (hl := rfl) (hd := dX10_whyNotTurn_0) ?_
  refine mx_iload_n (i := 1) (hi := rfl) (hl := rfl) (hd := dX10_whyNotTurn_1) ?_
  refine mx_callSp (As := [.ref g, .int p]) (rest := []) dX10_whyNotTurn_2 (mt_isStep G I g v ht hl hg p) km_X10_isStep rfl k_1235 k_1236 rfl rfl (Nat.le_of_ble_eq_true rfl) (by decide) ?_
  refine mx_ifB_ne 10 dX10_whyNotTurn_5 (by decide) (fun c5 => ?_) (fun c5 => ?_)
  · skip
    refine mx_aload_n (i := 0) (hi := rfl) (hl := rfl) (hd := dX10_whyNotTurn_10) ?_
    refine mx_aload_n (i := 0) (hi := rfl) (hl := rfl) (hd := dX10_whyNotTurn_11) ?_
    refine mx_iload_n (i := 1) (hi := rfl) (hl := rfl) (hd := dX10_whyNotTurn_12) ?_
    refine mx_callSp (As := [.int p]) (rest := [.ref g, .ref g]) dX10_whyNotTurn_13 ((mt_at G I p.toInt.toNat).eq (by rw [mx_nn c5.1]) rfl) km_X10_at rfl k_1180 k_1181 rfl rfl (Nat.le_of_ble_eq_true rfl) (by decide) ?_
    refine mx_iconstN 2 dX10_whyNotTurn_16 (by decide) ?_
    refine mx_iaddN dX10_whyNotTurn_17 ?_
    refine mx_ialdV ((3 + 4 * p.toInt.toNat) + 2) (nI (gT v p.toInt.toNat)) dX10_whyNotTurn_18 (by assumption) ⟨rfl, by omega, by omega⟩ (hg.2.2.2 p.toInt.toNat (by omega)).2.2.1 ?_
    refine mx_aload_n (i := 0) (hi := rfl) (hl := rfl) (hd := dX10_whyNotTurn_19) ?_
    refine mx_iload_n (i := 1) (hi := rfl) (hl := rfl) (hd := dX10_whyNotTurn_20) ?_
    refine mx_callSp (As := [.int p]) (rest := [.ref g, .int (nI (gT v p.toInt.toNat)), .ref g]) dX10_whyNotTurn_21 ((mt_at G I p.toInt.toNat).eq (by rw [mx_nn c5.1]) rfl) km_X10_at rfl k_1180 k_1181 rfl rfl (Nat.le_of_ble_eq_true rfl) (by decide) ?_
    refine mx_iconstN 1 dX10_whyNotTurn_24 (by decide) ?_
    refine mx_iaddN dX10_whyNotTurn_25 ?_
    refine mx_ialdV ((3 + 4 * p.toInt.toNat) + 1) (nI (gK v p.toInt.toNat)) dX10_whyNotTurn_26 (by assumption) ⟨rfl, by omega, by omega⟩ (hg.2.2.2 p.toInt.toNat (by omega)).2.1 ?_
    refine mx_aload_n (i := 0) (hi := rfl) (hl := rfl) (hd := dX10_whyNotTurn_27) ?_
    refine mx_iload_n (i := 1) (hi := rfl) (hl := rfl) (hd := dX10_whyNotTurn_28) ?_
    refine mx_callSp (As := [.int p]) (rest := [.ref g, .int (nI (gK v p.toInt.toNat)), .int (nI (gT v p.toInt.toNat)), .ref g]) dX10_whyNotTurn_29 ((mt_at G I p.toInt.toNat).eq (by rw [mx_nn c5.1]) rfl) km_X10_at rfl k_1180 k_1181 rfl rfl (Nat.le_of_ble_eq_true rfl) (by decide) ?_
    refine mx_ialdV (3 + 4 * p.toInt.toNat) (nI (gF v p.toInt.toNat)) dX10_whyNotTurn_32 (by assumption) ⟨rfl, by omega, by omega⟩ (hg.2.2.2 p.toInt.toNat (by omega)).1 ?_
    refine mx_callSp (As := [.ref g, .int (nI (gT v p.toInt.toNat)), .int (nI (gK v p.toInt.toNat)), .int (nI (gF v p.toInt.toNat))]) (rest := []) dX10_whyNotTurn_33 (mt_found G I g v ht hl hg (gT v p.toInt.toNat) (gK v p.toInt.toNat) (gF v p.toInt.toNat) (by have := hgb p.toInt.toNat (by omega); omega) (by have := hgb p.toInt.toNat (by omega); omega) (by have := hgb p.toInt.toNat (by omega); omega)) km_X10_found rfl k_1177 k_1178 rfl rfl (Nat.le_of_ble_eq_true rfl) (by decide) ?_
    refine mx_bipush (v := (-9)) (by decide) dX10_whyNotTurn_36 ?_
    refine mx_icmp_eq (tgt := 45) dX10_whyNotTurn_38 (by decide) (fun c38 => ?_) (fun c38 => ?_)
    · skip
      refine mx_iconstN 0 dX10_whyNotTurn_45 (by decide) ?_
      exact mx_iret dX10_whyNotTurn_46 rfl rfl (⟨by rw [if_neg (fun q => q c5), if_pos ((gIx_iff hgN).mp c38)], rfl, rfl⟩)
    · skip
      refine mx_iconstN 2 dX10_whyNotTurn_41 (by decide) ?_
      refine mx_goto (tgt := 46) dX10_whyNotTurn_42 (by decide) ?_
      exact mx_iret dX10_whyNotTurn_46 rfl rfl (⟨by rw [if_neg (fun q => q c5), if_neg (fun q => c38 ((gIx_iff hgN).mpr q))], rfl, rfl⟩)
  · skip
    refine mx_iconstN 1 dX10_whyNotTurn_8 (by decide) ?_
    exact mx_iret dX10_whyNotTurn_9 rfl rfl (⟨by rw [if_pos c5], rfl, rfl⟩)

set_option maxHeartbeats 4000000 in
set_option maxRecDepth 100000 in
theorem mt_copyGraph (G : mx_G) (I : mx_I) (ga fa gb ta : Nat) (hf : mx_tg G ga = 1) (ht : mx_tg G gb = 1) (hfl : fa + 143 ≤ mx_ln G ga) (htl : ta + 143 ≤ mx_ln G gb) (hfb : mx_ln G ga < 60000) (htb : mx_ln G gb < 60000) (hne : ga ≠ gb) : mx_CTi yX10_copyGraph mX10_copyGraph 1 [.ref ga, .int (nI fa), .ref gb, .int (nI ta)] G I (fun rv I1 => rv = none ∧ (∀ k, k < 143 → I1 gb (ta + k) = I ga (fa + k)) ∧ (∀ b j, ¬ (b = gb ∧ ta ≤ j ∧ j < ta + 143) → I1 b j = I b j)) := by
  refine mx_start (k := 1) (by decide) rfl rfl (fun h => nomatch h) (Nat.le_of_ble_eq_true rfl) ?_
  show mx_V mX10_copyGraph mx_S0 1 0 0 0 [some (.ref ga), some (.int (nI fa)), some (.ref gb), some (.int (nI ta)), none] [] G I (fun rv Gz Iz => (fun rv I1 => rv = none ∧ (∀ k, k < 143 → I1 gb (ta + k) = I ga (fa + k)) ∧ (∀ b j, ¬ (b = gb ∧ ta ≤ j ∧ j < ta + 143) → I1 b j = I b j)) rv Iz ∧ Gz = G) (fun _ _ _ => False)
  have L3 : ∀ (fq : Nat) (k : Nat) (I1 : mx_I), 143 - k < fq → (k ≤ 143) → (∀ i, i < k → I1 gb (ta + i) = I ga (fa + i)) → (∀ b j, ¬ (b = gb ∧ ta ≤ j ∧ j < ta + k) → I1 b j = I b j) → mx_V mX10_copyGraph mx_S0 1 0 0 3 [some (.ref ga), some (.int (nI fa)), some (.ref gb), some (.int (nI ta)), some (.int (nI k))] [] G I1 (fun rv Gz Iz => (fun rv I1 => rv = none ∧ (∀ k, k < 143 → I1 gb (ta + k) = I ga (fa + k)) ∧ (∀ b j, ¬ (b = gb ∧ ta ≤ j ∧ j < ta + 143) → I1 b j = I b j)) rv Iz ∧ Gz = G) (fun _ _ _ => False) := by
    intro fq
    induction fq with
    | zero => intro k I1 hfu; exact absurd hfu (Nat.not_lt_zero _)
    | succ fq ih =>
      intro k I1 hfu hk e1 e2
      refine mx_iload (i := 4) (hl := rfl) (hd := dX10_copyGraph_3) ?_
      refine mx_sipushN 143 dX10_copyGraph_5 (by decide) ?_
      refine mx_cmpN_ge 29 dX10_copyGraph_8 (by decide) (by omega) (by omega) (fun c8 => ?_) (fun c8 => ?_)
      · skip
        exact mx_vret dX10_copyGraph_29 rfl (⟨⟨rfl, fun i hi => e1 i (by omega), fun b j hj => e2 b j (by omega)⟩, rfl⟩)
      · skip
        refine mx_aload_n (i := 2) (hi := rfl) (hl := rfl) (hd := dX10_copyGraph_11) ?_
        refine mx_iload_n (i := 3) (hi := rfl) (hl := rfl) (hd := dX10_copyGraph_12) ?_
        refine mx_iload (i := 4) (hl := rfl) (hd := dX10_copyGraph_13) ?_
        refine mx_iaddN dX10_copyGraph_15 ?_
        refine mx_aload_n (i := 0) (hi := rfl) (hl := rfl) (hd := dX10_copyGraph_16) ?_
        refine mx_iload_n (i := 1) (hi := rfl) (hl := rfl) (hd := dX10_copyGraph_17) ?_
        refine mx_iload (i := 4) (hl := rfl) (hd := dX10_copyGraph_18) ?_
        refine mx_iaddN dX10_copyGraph_20 ?_
        refine mx_ialdV (fa + k) (I ga (fa + k) : Int32) dX10_copyGraph_21 (by assumption) ⟨rfl, by omega, by omega⟩ (e2 _ _ (fun q => hne q.1)) ?_
        refine mx_iast (ta + k) dX10_copyGraph_22 (by assumption) ⟨rfl, by omega, by omega⟩ ?_
        refine mx_iincE (i := 4) (ls' := [some (.ref ga), some (.int (nI fa)), some (.ref gb), some (.int (nI ta)), some (.int (nI (k + 1)))]) 1 dX10_copyGraph_23 rfl (by decide) (by decide) rfl rfl ?_
        refine mx_goto (tgt := 3) dX10_copyGraph_26 (by decide) ?_
        exact ih (k + 1) _ (by omega) (by omega) (fun i hi => by
          by_cases e : i = k
          · rw [e, mx_u_at, if_pos ⟨rfl, rfl⟩]
          · rw [mx_u_at, if_neg (by omega)]; exact e1 i (by omega)) (fun b j hj => by rw [mx_u_at, if_neg (by omega)]; exact e2 b j (by omega))
  refine mx_iconstN 0 dX10_copyGraph_0 (by decide) ?_
  refine mx_istoreE (i := 4) (ls' := [some (.ref ga), some (.int (nI fa)), some (.ref gb), some (.int (nI ta)), some (.int (nI 0))]) (hd := dX10_copyGraph_1) (hn := by decide) (hok := rfl) (hls := rfl) ?_
  exact L3 _ 0 _ (Nat.lt_succ_self _) (Nat.zero_le _) (fun i hi => absurd hi (Nat.not_lt_zero _)) (fun b j _ => rfl)
