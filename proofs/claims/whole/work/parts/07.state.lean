/-! THE CLASS State, by cells: a graph v = (people, steps, from, kind, to, cost) -/
abbrev Gr : Type := Nat × Nat × (Nat → Nat) × (Nat → Nat) × (Nat → Nat) × (Nat → Nat)
abbrev gP (v : Gr) : Nat := v.1
abbrev gN (v : Gr) : Nat := v.2.1
abbrev gF (v : Gr) : Nat → Nat := v.2.2.1
abbrev gK (v : Gr) : Nat → Nat := v.2.2.2.1
abbrev gT (v : Gr) : Nat → Nat := v.2.2.2.2.1
abbrev gC (v : Gr) : Nat → Nat := v.2.2.2.2.2
def oST (G : mx_G) (o : Nat) : Prop := mx_tg G o = 16 ∧ (mx_rf G o 2 = o + 1 ∧ mx_tg G (o + 1) = 1 ∧ mx_ln G (o + 1) = 25) ∧ (mx_rf G o 3 = o + 2 ∧ mx_tg G (o + 2) = 1 ∧ mx_ln G (o + 2) = 25) ∧ (mx_rf G o 4 = o + 3 ∧ mx_tg G (o + 3) = 1 ∧ mx_ln G (o + 3) = 25) ∧ (mx_rf G o 5 = o + 4 ∧ mx_tg G (o + 4) = 1 ∧ mx_ln G (o + 4) = 25)
def stN (I : mx_I) (o : Nat) (v : Gr) : Prop := gP v ≤ 8 ∧ gN v ≤ 25 ∧ I o 0 = nI (gP v) ∧ I o 1 = nI (gN v) ∧ ∀ s, s < gN v → (I (o + 1) s = nI (gF v s) ∧ gF v s < 8) ∧ (I (o + 2) s = nI (gK v s) ∧ gK v s < 4) ∧ (I (o + 3) s = nI (gT v s) ∧ gT v s < 8) ∧ (I (o + 4) s = nI (gC v s) ∧ 1 ≤ gC v s ∧ gC v s ≤ 9)
/-- outside lo .. hi - 1 nothing has changed -/
def mx_fr (I I' : mx_I) (lo hi : Nat) : Prop := ∀ a, a < lo ∨ hi ≤ a → I' a = I a
theorem stN.fr {I I' : mx_I} {o lo hi : Nat} {v : Gr} (h : stN I o v) (f : mx_fr I I' lo hi) (d : o + 5 ≤ lo ∨ hi ≤ o) : stN I' o v := by
  obtain ⟨h1, h2, h3, h4, h5⟩ := h
  have e0 := f o (by omega)
  have e1 := f (o + 1) (by omega)
  have e2 := f (o + 2) (by omega)
  have e3 := f (o + 3) (by omega)
  have e4 := f (o + 4) (by omega)
  exact ⟨h1, h2, by rw [e0]; exact h3, by rw [e0]; exact h4, fun s hs => by rw [e1, e2, e3, e4]; exact h5 s hs⟩
theorem mx_fr.rf (I : mx_I) (lo hi : Nat) : mx_fr I I lo hi := fun _ _ => rfl
theorem mx_fr.tr {I I1 I2 : mx_I} {lo hi : Nat} (h : mx_fr I I1 lo hi) (k : mx_fr I1 I2 lo hi) : mx_fr I I2 lo hi := fun a ha => (k a ha).trans (h a ha)
theorem mx_fr.wk {I I1 : mx_I} {lo hi lo' hi' : Nat} (h : mx_fr I I1 lo hi) (h1 : lo' ≤ lo) (h2 : hi ≤ hi') : mx_fr I I1 lo' hi' := fun a ha => h a (by omega)
theorem mx_fr.u {I I1 : mx_I} {lo hi a j : Nat} {x : Int32} (h : mx_fr I I1 lo hi) (ha : lo ≤ a ∧ a < hi) : mx_fr I (mx_u I1 a j x) lo hi := fun b hb => by
  funext k
  rw [mx_u_at, if_neg (by omega)]
  exact congrFun (h b hb) k
/-- an index, or none -/
def oI (x : Option Nat) : Int32 := match x with
  | none => -9
  | some s => nI s
def gIxF (v : Gr) (p k q : Nat) : Nat → Nat → Option Nat
  | 0, _ => none
  | f + 1, s => if gF v s = p ∧ gK v s = k ∧ gT v s = q then some s else gIxF v p k q f (s + 1)
def gIx (v : Gr) (p k q : Nat) : Option Nat := gIxF v p k q (gN v) 0
def gCnt (g : Nat → Nat) (p : Nat) : Nat → Nat
  | 0 => 0
  | s + 1 => gCnt g p s + if g s = p then 1 else 0
theorem gCnt_le (g : Nat → Nat) (p : Nat) : ∀ n, gCnt g p n ≤ n
  | 0 => Nat.le_refl _
  | n + 1 => by
    have := gCnt_le g p n
    unfold gCnt
    split <;> omega
def gSum (g : Nat → Nat) : Nat → Nat
  | 0 => 0
  | s + 1 => gSum g s + g s

set_option maxHeartbeats 4000000 in
set_option maxRecDepth 100000 in
theorem ct_hasPerson (G : mx_G) (I : mx_I) (o : Nat) (v : Gr) (hs : oST G o) (hv : stN I o v) (p : Int32) : mx_CTp yX6_hasPerson mX6_hasPerson 1 [.ref o, .int p] G I (some (.int (mx_b (decide (0 ≤ p.toInt ∧ p.toInt < (gP v : Int)))))) := by
  refine mx_start (k := 0) (by decide) rfl rfl (fun h => nomatch h) (Nat.le_of_ble_eq_true rfl) ?_
  show mx_V mX6_hasPerson mx_S0 1 0 0 0 [some (.ref o), some (.int p)] [] G I (fun rv Gz Iz => rv = some (.int (mx_b (decide (0 ≤ p.toInt ∧ p.toInt < (gP v : Int))))) ∧ Gz = G ∧ Iz = I) (fun _ _ _ => False)
  obtain ⟨hg0, ⟨hg2, hg3, hg4⟩, ⟨hg5, hg6, hg7⟩, ⟨hg8, hg9, hg10⟩, ⟨hg11, hg12, hg13⟩⟩ := hs
  obtain ⟨hP, hN, hv0, hv1, hv⟩ := hv
  refine mx_iload_n (i := 1) (hi := rfl) (hl := rfl) (hd := dX6_hasPerson_0) ?_
  refine mx_ifR_lt 16 dX6_hasPerson_1 (by decide) (fun c1 => ?_) (fun c1 => ?_)
  · skip
    refine mx_iconstN 0 dX6_hasPerson_16 (by decide) ?_
    exact mx_iret dX6_hasPerson_17 rfl (by decide) (⟨congrArg (fun z => some (Value.int z)) (mx_bF (by omega)), rfl, rfl⟩)
  · skip
    refine mx_iload_n (i := 1) (hi := rfl) (hl := rfl) (hd := dX6_hasPerson_4) ?_
    refine mx_aload_n (i := 0) (hi := rfl) (hl := rfl) (hd := dX6_hasPerson_5) ?_
    refine mx_getV (ci := 6) (k := 0) (nI (gP v)) dX6_hasPerson_6 k_190 (by decide) rfl (by assumption) hv0 ?_
    refine mx_cmpRN_ge 16 dX6_hasPerson_9 (by decide) (by omega) (fun c2 => ?_) (fun c2 => ?_)
    · skip
      refine mx_iconstN 0 dX6_hasPerson_16 (by decide) ?_
      exact mx_iret dX6_hasPerson_17 rfl (by decide) (⟨congrArg (fun z => some (Value.int z)) (mx_bF (by omega)), rfl, rfl⟩)
    · skip
      refine mx_iconstN 1 dX6_hasPerson_12 (by decide) ?_
      refine mx_goto (tgt := 17) dX6_hasPerson_13 (by decide) ?_
      exact mx_iret dX6_hasPerson_17 rfl (by decide) (⟨congrArg (fun z => some (Value.int z)) (mx_bT (by omega)), rfl, rfl⟩)

set_option maxHeartbeats 4000000 in
set_option maxRecDepth 100000 in
theorem ct_hasStep (G : mx_G) (I : mx_I) (o : Nat) (v : Gr) (hs : oST G o) (hv : stN I o v) (p : Int32) : mx_CTp yX6_hasStep mX6_hasStep 1 [.ref o, .int p] G I (some (.int (mx_b (decide (0 ≤ p.toInt ∧ p.toInt < (gN v : Int)))))) := by
  refine mx_start (k := 0) (by decide) rfl rfl (fun h => nomatch h) (Nat.le_of_ble_eq_true rfl) ?_
  show mx_V mX6_hasStep mx_S0 1 0 0 0 [some (.ref o), some (.int p)] [] G I (fun rv Gz Iz => rv = some (.int (mx_b (decide (0 ≤ p.toInt ∧ p.toInt < (gN v : Int))))) ∧ Gz = G ∧ Iz = I) (fun _ _ _ => False)
  obtain ⟨hg0, ⟨hg2, hg3, hg4⟩, ⟨hg5, hg6, hg7⟩, ⟨hg8, hg9, hg10⟩, ⟨hg11, hg12, hg13⟩⟩ := hs
  obtain ⟨hP, hN, hv0, hv1, hv⟩ := hv
  refine mx_iload_n (i := 1) (hi := rfl) (hl := rfl) (hd := dX6_hasStep_0) ?_
  refine mx_ifR_lt 16 dX6_hasStep_1 (by decide) (fun c1 => ?_) (fun c1 => ?_)
  · skip
    refine mx_iconstN 0 dX6_hasStep_16 (by decide) ?_
    exact mx_iret dX6_hasStep_17 rfl (by decide) (⟨congrArg (fun z => some (Value.int z)) (mx_bF (by omega)), rfl, rfl⟩)
  · skip
    refine mx_iload_n (i := 1) (hi := rfl) (hl := rfl) (hd := dX6_hasStep_4) ?_
    refine mx_aload_n (i := 0) (hi := rfl) (hl := rfl) (hd := dX6_hasStep_5) ?_
    refine mx_getV (ci := 6) (k := 1) (nI (gN v)) dX6_hasStep_6 k_195 (by decide) rfl (by assumption) hv1 ?_
    refine mx_cmpRN_ge 16 dX6_hasStep_9 (by decide) (by omega) (fun c2 => ?_) (fun c2 => ?_)
    · skip
      refine mx_iconstN 0 dX6_hasStep_16 (by decide) ?_
      exact mx_iret dX6_hasStep_17 rfl (by decide) (⟨congrArg (fun z => some (Value.int z)) (mx_bF (by omega)), rfl, rfl⟩)
    · skip
      refine mx_iconstN 1 dX6_hasStep_12 (by decide) ?_
      refine mx_goto (tgt := 17) dX6_hasStep_13 (by decide) ?_
      exact mx_iret dX6_hasStep_17 rfl (by decide) (⟨congrArg (fun z => some (Value.int z)) (mx_bT (by omega)), rfl, rfl⟩)

set_option maxHeartbeats 4000000 in
set_option maxRecDepth 100000 in
theorem ct_hasPeople (G : mx_G) (I : mx_I) (o : Nat) (v : Gr) (hs : oST G o) (hv : stN I o v) (p q : Int32) : mx_CTp yX6_hasPeople mX6_hasPeople 2 [.ref o, .int p, .int q] G I (some (.int (mx_b (decide ((0 ≤ p.toInt ∧ p.toInt < (gP v : Int)) ∧ (0 ≤ q.toInt ∧ q.toInt < (gP v : Int))))))) := by
  refine mx_start (k := 0) (by decide) rfl rfl (fun h => nomatch h) (Nat.le_of_ble_eq_true rfl) ?_
  show mx_V mX6_hasPeople mx_S0 2 0 0 0 [some (.ref o), some (.int p), some (.int q)] [] G I (fun rv Gz Iz => rv = some (.int (mx_b (decide ((0 ≤ p.toInt ∧ p.toInt < (gP v : Int)) ∧ (0 ≤ q.toInt ∧ q.toInt < (gP v : Int)))))) ∧ Gz = G ∧ Iz = I) (fun _ _ _ => False)
  have hs0 := hs
  have hv0' := hv
  obtain ⟨hg0, ⟨hg2, hg3, hg4⟩, ⟨hg5, hg6, hg7⟩, ⟨hg8, hg9, hg10⟩, ⟨hg11, hg12, hg13⟩⟩ := hs
  obtain ⟨hP, hN, hv0, hv1, hv⟩ := hv
  refine mx_aload_n (i := 0) (hi := rfl) (hl := rfl) (hd := dX6_hasPeople_0) ?_
  refine mx_iload_n (i := 1) (hi := rfl) (hl := rfl) (hd := dX6_hasPeople_1) ?_
  refine mx_callVp (ci := 6) (As := [.int p]) (rest := []) dX6_hasPeople_2 (ct_hasPerson G I o v hs0 hv0' p) km_X6_hasPerson rfl k_641 k_388 k_389 (by assumption) rfl rfl (by decide) (by decide) ?_
  refine mx_ifB_eq 20 dX6_hasPeople_5 (by decide) (fun c1 => ?_) (fun c1 => ?_)
  · skip
    refine mx_iconstN 0 dX6_hasPeople_20 (by decide) ?_
    exact mx_iret dX6_hasPeople_21 rfl (by decide) (⟨congrArg (fun z => some (Value.int z)) (mx_bF (by omega)), rfl, rfl⟩)
  · skip
    refine mx_aload_n (i := 0) (hi := rfl) (hl := rfl) (hd := dX6_hasPeople_8) ?_
    refine mx_iload_n (i := 2) (hi := rfl) (hl := rfl) (hd := dX6_hasPeople_9) ?_
    refine mx_callVp (ci := 6) (As := [.int q]) (rest := []) dX6_hasPeople_10 (ct_hasPerson G I o v hs0 hv0' q) km_X6_hasPerson rfl k_641 k_388 k_389 (by assumption) rfl rfl (by decide) (by decide) ?_
    refine mx_ifB_eq 20 dX6_hasPeople_13 (by decide) (fun c2 => ?_) (fun c2 => ?_)
    · skip
      refine mx_iconstN 0 dX6_hasPeople_20 (by decide) ?_
      exact mx_iret dX6_hasPeople_21 rfl (by decide) (⟨congrArg (fun z => some (Value.int z)) (mx_bF (by omega)), rfl, rfl⟩)
    · skip
      refine mx_iconstN 1 dX6_hasPeople_16 (by decide) ?_
      refine mx_goto (tgt := 21) dX6_hasPeople_17 (by decide) ?_
      exact mx_iret dX6_hasPeople_21 rfl (by decide) (⟨congrArg (fun z => some (Value.int z)) (mx_bT (by omega)), rfl, rfl⟩)

set_option maxHeartbeats 4000000 in
set_option maxRecDepth 100000 in
theorem ct_indexOf (G : mx_G) (I : mx_I) (o : Nat) (v : Gr) (hs : oST G o) (hv : stN I o v) (p k q : Nat) (hp : p < 2 ^ 31) (hk : k < 2 ^ 31) (hq : q < 2 ^ 31) : mx_CTp yX6_indexOf mX6_indexOf 1 [.ref o, .int (nI p), .int (nI k), .int (nI q)] G I (some (.int (oI (gIx v p k q)))) := by
  refine mx_start (k := 1) (by decide) rfl rfl (fun h => nomatch h) (Nat.le_of_ble_eq_true rfl) ?_
  show mx_V mX6_indexOf mx_S0 1 0 0 0 [some (.ref o), some (.int (nI p)), some (.int (nI k)), some (.int (nI q)), none] [] G I (fun rv Gz Iz => rv = some (.int (oI (gIx v p k q))) ∧ Gz = G ∧ Iz = I) (fun _ _ _ => False)
  obtain ⟨hg0, ⟨hg2, hg3, hg4⟩, ⟨hg5, hg6, hg7⟩, ⟨hg8, hg9, hg10⟩, ⟨hg11, hg12, hg13⟩⟩ := hs
  obtain ⟨hP, hN, hv0, hv1, hv⟩ := hv
  have L3 : ∀ (f : Nat) (s : Nat), gN v - s < f → (s ≤ gN v) → (gIx v p k q = gIxF v p k q (gN v - s) s) → mx_V mX6_indexOf mx_S0 1 0 0 3 [some (.ref o), some (.int (nI p)), some (.int (nI k)), some (.int (nI q)), some (.int (nI s))] [] G I (fun rv Gz Iz => rv = some (.int (oI (gIx v p k q))) ∧ Gz = G ∧ Iz = I) (fun _ _ _ => False) := by
    intro f
    induction f with
    | zero => intro s hf; exact absurd hf (Nat.not_lt_zero _)
    | succ f ih =>
      intro s hf hsn hx
      refine mx_iload (i := 4) (hl := rfl) (hd := dX6_indexOf_3) ?_
      refine mx_aload_n (i := 0) (hi := rfl) (hl := rfl) (hd := dX6_indexOf_5) ?_
      refine mx_getV (ci := 6) (k := 1) (nI (gN v)) dX6_indexOf_6 k_195 (by decide) rfl (by assumption) hv1 ?_
      refine mx_cmpN_ge 54 dX6_indexOf_9 (by decide) (by omega) (by omega) (fun c1 => ?_) (fun c1 => ?_)
      · skip
        refine mx_bipush (v := (-9)) (by decide) dX6_indexOf_54 ?_
        exact mx_iret dX6_indexOf_56 rfl rfl (⟨by rw [hx, show gN v - s = 0 by omega, gIxF]; rfl, rfl, rfl⟩)
      · skip
        refine mx_aload_n (i := 0) (hi := rfl) (hl := rfl) (hd := dX6_indexOf_12) ?_
        refine mx_getR (ci := 6) (k := 2) (r := (o + 1)) dX6_indexOf_13 k_200 (by decide) rfl (by assumption) (by assumption) (by omega) ?_
        refine mx_iload (i := 4) (hl := rfl) (hd := dX6_indexOf_16) ?_
        refine mx_ialdV s (nI (gF v s)) dX6_indexOf_18 (by assumption) ⟨rfl, by omega, by omega⟩ (hv s (by omega)).1.1 ?_
        refine mx_iload_n (i := 1) (hi := rfl) (hl := rfl) (hd := dX6_indexOf_19) ?_
        refine mx_cmpN_ne 48 dX6_indexOf_20 (by decide) (by have := (hv s (by omega)).1.2; omega) (by omega) (fun c2 => ?_) (fun c2 => ?_)
        · skip
          refine mx_iincE (i := 4) (ls' := [some (.ref o), some (.int (nI p)), some (.int (nI k)), some (.int (nI q)), some (.int (nI (s + 1)))]) 1 dX6_indexOf_48 rfl (by decide) (by decide) rfl rfl ?_
          refine mx_goto (tgt := 3) dX6_indexOf_51 (by decide) ?_
          exact ih (s + 1) (by omega) (by omega) (by rw [hx, show gN v - s = gN v - (s + 1) + 1 by omega, gIxF, if_neg (by omega)])
        · skip
          refine mx_aload_n (i := 0) (hi := rfl) (hl := rfl) (hd := dX6_indexOf_23) ?_
          refine mx_getR (ci := 6) (k := 3) (r := (o + 2)) dX6_indexOf_24 k_205 (by decide) rfl (by assumption) (by assumption) (by omega) ?_
          refine mx_iload (i := 4) (hl := rfl) (hd := dX6_indexOf_27) ?_
          refine mx_ialdV s (nI (gK v s)) dX6_indexOf_29 (by assumption) ⟨rfl, by omega, by omega⟩ (hv s (by omega)).2.1.1 ?_
          refine mx_iload_n (i := 2) (hi := rfl) (hl := rfl) (hd := dX6_indexOf_30) ?_
          refine mx_cmpN_ne 48 dX6_indexOf_31 (by decide) (by have := (hv s (by omega)).2.1.2; omega) (by omega) (fun c3 => ?_) (fun c3 => ?_)
          · skip
            refine mx_iincE (i := 4) (ls' := [some (.ref o), some (.int (nI p)), some (.int (nI k)), some (.int (nI q)), some (.int (nI (s + 1)))]) 1 dX6_indexOf_48 rfl (by decide) (by decide) rfl rfl ?_
            refine mx_goto (tgt := 3) dX6_indexOf_51 (by decide) ?_
            exact ih (s + 1) (by omega) (by omega) (by rw [hx, show gN v - s = gN v - (s + 1) + 1 by omega, gIxF, if_neg (by omega)])
          · skip
            refine mx_aload_n (i := 0) (hi := rfl) (hl := rfl) (hd := dX6_indexOf_34) ?_
            refine mx_getR (ci := 6) (k := 4) (r := (o + 3)) dX6_indexOf_35 k_208 (by decide) rfl (by assumption) (by assumption) (by omega) ?_
            refine mx_iload (i := 4) (hl := rfl) (hd := dX6_indexOf_38) ?_
            refine mx_ialdV s (nI (gT v s)) dX6_indexOf_40 (by assumption) ⟨rfl, by omega, by omega⟩ (hv s (by omega)).2.2.1.1 ?_
            refine mx_iload_n (i := 3) (hi := rfl) (hl := rfl) (hd := dX6_indexOf_41) ?_
            refine mx_cmpN_ne 48 dX6_indexOf_42 (by decide) (by have := (hv s (by omega)).2.2.1.2; omega) (by omega) (fun c4 => ?_) (fun c4 => ?_)
            · skip
              refine mx_iincE (i := 4) (ls' := [some (.ref o), some (.int (nI p)), some (.int (nI k)), some (.int (nI q)), some (.int (nI (s + 1)))]) 1 dX6_indexOf_48 rfl (by decide) (by decide) rfl rfl ?_
              refine mx_goto (tgt := 3) dX6_indexOf_51 (by decide) ?_
              exact ih (s + 1) (by omega) (by omega) (by rw [hx, show gN v - s = gN v - (s + 1) + 1 by omega, gIxF, if_neg (by omega)])
            · skip
              refine mx_iload (i := 4) (hl := rfl) (hd := dX6_indexOf_45) ?_
              exact mx_iret dX6_indexOf_47 rfl rfl (⟨by rw [hx, show gN v - s = gN v - (s + 1) + 1 by omega, gIxF, if_pos (by omega)]; rfl, rfl, rfl⟩)
  refine mx_iconstN 0 dX6_indexOf_0 (by decide) ?_
  refine mx_istoreE (i := 4) (ls' := [some (.ref o), some (.int (nI p)), some (.int (nI k)), some (.int (nI q)), some (.int (nI 0))]) (hd := dX6_indexOf_1) (hn := by decide) (hok := rfl) (hls := rfl) ?_
  exact L3 _ 0 (Nat.lt_succ_self _) (Nat.zero_le _) rfl

set_option maxHeartbeats 4000000 in
set_option maxRecDepth 100000 in
theorem ct_beginOf (G : mx_G) (I : mx_I) (o : Nat) (v : Gr) (hs : oST G o) (hv : stN I o v) (s dr : Nat) (hsn : s < gN v) (hd2 : dr < 2 ^ 31) : mx_CTp yX6_beginOf mX6_beginOf 1 [.ref o, .int (nI s), .int (nI dr)] G I (some (.int (nI (if dr = 0 then gF v s else gT v s)))) := by
  refine mx_start (k := 0) (by decide) rfl rfl (fun h => nomatch h) (Nat.le_of_ble_eq_true rfl) ?_
  show mx_V mX6_beginOf mx_S0 1 0 0 0 [some (.ref o), some (.int (nI s)), some (.int (nI dr))] [] G I (fun rv Gz Iz => rv = some (.int (nI (if dr = 0 then gF v s else gT v s))) ∧ Gz = G ∧ Iz = I) (fun _ _ _ => False)
  obtain ⟨hg0, ⟨hg2, hg3, hg4⟩, ⟨hg5, hg6, hg7⟩, ⟨hg8, hg9, hg10⟩, ⟨hg11, hg12, hg13⟩⟩ := hs
  obtain ⟨hP, hN, hv0, hv1, hv⟩ := hv
  refine mx_iload_n (i := 2) (hi := rfl) (hl := rfl) (hd := dX6_beginOf_0) ?_
  refine mx_ifN_ne 13 dX6_beginOf_1 (by decide) (by omega) (fun c1 => ?_) (fun c1 => ?_)
  · skip
    refine mx_aload_n (i := 0) (hi := rfl) (hl := rfl) (hd := dX6_beginOf_13) ?_
    refine mx_getR (ci := 6) (k := 4) (r := (o + 3)) dX6_beginOf_14 k_208 (by decide) rfl (by assumption) (by assumption) (by omega) ?_
    refine mx_iload_n (i := 1) (hi := rfl) (hl := rfl) (hd := dX6_beginOf_17) ?_
    refine mx_ialdV s (nI (gT v s)) dX6_beginOf_18 (by assumption) ⟨rfl, by omega, by omega⟩ (hv s (by omega)).2.2.1.1 ?_
    exact mx_iret dX6_beginOf_19 rfl rfl (⟨by rw [if_neg (by omega)], rfl, rfl⟩)
  · skip
    refine mx_aload_n (i := 0) (hi := rfl) (hl := rfl) (hd := dX6_beginOf_4) ?_
    refine mx_getR (ci := 6) (k := 2) (r := (o + 1)) dX6_beginOf_5 k_200 (by decide) rfl (by assumption) (by assumption) (by omega) ?_
    refine mx_iload_n (i := 1) (hi := rfl) (hl := rfl) (hd := dX6_beginOf_8) ?_
    refine mx_ialdV s (nI (gF v s)) dX6_beginOf_9 (by assumption) ⟨rfl, by omega, by omega⟩ (hv s (by omega)).1.1 ?_
    refine mx_goto (tgt := 19) dX6_beginOf_10 (by decide) ?_
    exact mx_iret dX6_beginOf_19 rfl rfl (⟨by rw [if_pos (by omega)], rfl, rfl⟩)

set_option maxHeartbeats 4000000 in
set_option maxRecDepth 100000 in
theorem ct_endOf (G : mx_G) (I : mx_I) (o : Nat) (v : Gr) (hs : oST G o) (hv : stN I o v) (s dr : Nat) (hsn : s < gN v) (hd2 : dr < 2 ^ 31) : mx_CTp yX6_endOf mX6_endOf 1 [.ref o, .int (nI s), .int (nI dr)] G I (some (.int (nI (if dr = 0 then gT v s else gF v s)))) := by
  refine mx_start (k := 0) (by decide) rfl rfl (fun h => nomatch h) (Nat.le_of_ble_eq_true rfl) ?_
  show mx_V mX6_endOf mx_S0 1 0 0 0 [some (.ref o), some (.int (nI s)), some (.int (nI dr))] [] G I (fun rv Gz Iz => rv = some (.int (nI (if dr = 0 then gT v s else gF v s))) ∧ Gz = G ∧ Iz = I) (fun _ _ _ => False)
  obtain ⟨hg0, ⟨hg2, hg3, hg4⟩, ⟨hg5, hg6, hg7⟩, ⟨hg8, hg9, hg10⟩, ⟨hg11, hg12, hg13⟩⟩ := hs
  obtain ⟨hP, hN, hv0, hv1, hv⟩ := hv
  refine mx_iload_n (i := 2) (hi := rfl) (hl := rfl) (hd := dX6_endOf_0) ?_
  refine mx_ifN_ne 13 dX6_endOf_1 (by decide) (by omega) (fun c1 => ?_) (fun c1 => ?_)
  · skip
    refine mx_aload_n (i := 0) (hi := rfl) (hl := rfl) (hd := dX6_endOf_13) ?_
    refine mx_getR (ci := 6) (k := 2) (r := (o + 1)) dX6_endOf_14 k_200 (by decide) rfl (by assumption) (by assumption) (by omega) ?_
    refine mx_iload_n (i := 1) (hi := rfl) (hl := rfl) (hd := dX6_endOf_17) ?_
    refine mx_ialdV s (nI (gF v s)) dX6_endOf_18 (by assumption) ⟨rfl, by omega, by omega⟩ (hv s (by omega)).1.1 ?_
    exact mx_iret dX6_endOf_19 rfl rfl (⟨by rw [if_neg (by omega)], rfl, rfl⟩)
  · skip
    refine mx_aload_n (i := 0) (hi := rfl) (hl := rfl) (hd := dX6_endOf_4) ?_
    refine mx_getR (ci := 6) (k := 4) (r := (o + 3)) dX6_endOf_5 k_208 (by decide) rfl (by assumption) (by assumption) (by omega) ?_
    refine mx_iload_n (i := 1) (hi := rfl) (hl := rfl) (hd := dX6_endOf_8) ?_
    refine mx_ialdV s (nI (gT v s)) dX6_endOf_9 (by assumption) ⟨rfl, by omega, by omega⟩ (hv s (by omega)).2.2.1.1 ?_
    refine mx_goto (tgt := 19) dX6_endOf_10 (by decide) ?_
    exact mx_iret dX6_endOf_19 rfl rfl (⟨by rw [if_pos (by omega)], rfl, rfl⟩)
