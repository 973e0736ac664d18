/-! THE CLASS State, by cells: a graph v = (people, steps, from, kind, to, cost) -/
abbrev Gr : Type := Nat × Nat × (Nat → Nat) × (Nat → Nat) × (Nat → Nat) × (Nat → Nat)
abbrev gP (v : Gr) : Nat := v.1
abbrev gN (v : Gr) : Nat := v.2.1
abbrev gF (v : Gr) : Nat → Nat := v.2.2.1
abbrev gK (v : Gr) : Nat → Nat := v.2.2.2.1
abbrev gT (v : Gr) : Nat → Nat := v.2.2.2.2.1
abbrev gC (v : Gr) : Nat → Nat := v.2.2.2.2.2
def oST (G : mx_G) (o : Nat) : Prop := mx_tg G o = 16 ∧ (mx_rf G o 2 = o + 1 ∧ mx_tg G (o + 1) = 1 ∧ mx_ln G (o + 1) = 25) ∧ (mx_rf G o 3 = o + 2 ∧ mx_tg G (o + 2) = 1 ∧ mx_ln G (o + 2) = 25) ∧ (mx_rf G o 4 = o + 3 ∧ mx_tg G (o + 3) = 1 ∧ mx_ln G (o + 3) = 25) ∧ (mx_rf G o 5 = o + 4 ∧ mx_tg G (o + 4) = 1 ∧ mx_ln G (o + 4) = 25)
def wfG (v : Gr) : Prop := gP v ≤ 8 ∧ gN v ≤ 25 ∧ ∀ s, s < gN v → gF v s < 8 ∧ gK v s < 4 ∧ gT v s < 8 ∧ 1 ≤ gC v s ∧ gC v s ≤ 9
/-- an array's first n ints -/
def arN (I : mx_I) (a : Nat) (g : Nat → Nat) (n : Nat) : Prop := ∀ s, s < n → I a s = nI (g s)
def stN (I : mx_I) (o : Nat) (v : Gr) : Prop := wfG v ∧ I o 0 = nI (gP v) ∧ I o 1 = nI (gN v) ∧ arN I (o + 1) (gF v) (gN v) ∧ arN I (o + 2) (gK v) (gN v) ∧ arN I (o + 3) (gT v) (gN v) ∧ arN I (o + 4) (gC v) (gN v)
/-- outside lo .. hi - 1 nothing has changed -/
def mx_fr (I I' : mx_I) (lo hi : Nat) : Prop := ∀ a, a < lo ∨ hi ≤ a → I' a = I a
theorem stN.fr {I I' : mx_I} {o lo hi : Nat} {v : Gr} (h : stN I o v) (f : mx_fr I I' lo hi) (d : o + 5 ≤ lo ∨ hi ≤ o) : stN I' o v := by
  obtain ⟨h1, h3, h4, h5, h6, h7, h8⟩ := h
  have e0 := f o (by omega)
  have e1 := f (o + 1) (by omega)
  have e2 := f (o + 2) (by omega)
  have e3 := f (o + 3) (by omega)
  have e4 := f (o + 4) (by omega)
  exact ⟨h1, by rw [e0]; exact h3, by rw [e0]; exact h4, fun s hs => by rw [e1]; exact h5 s hs, fun s hs => by rw [e2]; exact h6 s hs, fun s hs => by rw [e3]; exact h7 s hs, fun s hs => by rw [e4]; exact h8 s hs⟩
theorem mx_fr.rf (I : mx_I) (lo hi : Nat) : mx_fr I I lo hi := fun _ _ => rfl
theorem mx_fr.tr {I I1 I2 : mx_I} {lo hi : Nat} (h : mx_fr I I1 lo hi) (k : mx_fr I1 I2 lo hi) : mx_fr I I2 lo hi := fun a ha => (k a ha).trans (h a ha)
theorem mx_fr.wk {I I1 : mx_I} {lo hi lo' hi' : Nat} (h : mx_fr I I1 lo hi) (h1 : lo' ≤ lo) (h2 : hi ≤ hi') : mx_fr I I1 lo' hi' := fun a ha => h a (by omega)
theorem mx_fr.u {I I1 : mx_I} {lo hi a j : Nat} {x : Int32} (h : mx_fr I I1 lo hi) (ha : lo ≤ a ∧ a < hi) : mx_fr I (mx_u I1 a j x) lo hi := fun b hb => by
  funext k
  rw [mx_u_at, if_neg (by omega)]
  exact congrFun (h b hb) k
/-- an index, or none -/
def oI (x : Option Nat) : Int32 := match x with
  | none => -9
  | some s => nI s
def gIxF (v : Gr) (p k q : Nat) : Nat → Nat → Option Nat
  | 0, _ => none
  | f + 1, s => if gF v s = p ∧ gK v s = k ∧ gT v s = q then some s else gIxF v p k q f (s + 1)
def gIx (v : Gr) (p k q : Nat) : Option Nat := gIxF v p k q (gN v) 0
def gCnt (g : Nat → Nat) (p : Nat) : Nat → Nat
  | 0 => 0
  | s + 1 => gCnt g p s + if g s = p then 1 else 0
theorem gCnt_le (g : Nat → Nat) (p : Nat) : ∀ n, gCnt g p n ≤ n
  | 0 => Nat.le_refl _
  | n + 1 => by
    have := gCnt_le g p n
    unfold gCnt
    split <;> omega
def gSum (g : Nat → Nat) : Nat → Nat
  | 0 => 0
  | s + 1 => gSum g s + g s

set_option maxHeartbeats 4000000 in
set_option maxRecDepth 100000 in
theorem ct_hasPerson (G : mx_G) (I : mx_I) (o : Nat) (v : Gr) (hs : oST G o) (hv : stN I o v) (p : Int32) : mx_CTp yX6_hasPerson mX6_hasPerson 1 [.ref o, .int p] G I (some (.int (mx_b (decide (0 ≤ p.toInt ∧ p.toInt < (gP v : Int)))))) := by
  refine mx_start (k := 0) (by decide) rfl rfl (fun h => nomatch h) (Nat.le_of_ble_eq_true rfl) ?_
  show mx_V mX6_hasPerson mx_S0 1 0 0 0 [some (.ref o), some (.int p)] [] G I (fun rv Gz Iz => rv = some (.int (mx_b (decide (0 ≤ p.toInt ∧ p.toInt < (gP v : Int))))) ∧ Gz = G ∧ Iz = I) (fun _ _ _ => False)
  obtain ⟨hg0, ⟨hg2, hg3, hg4⟩, ⟨hg5, hg6, hg7⟩, ⟨hg8, hg9, hg10⟩, ⟨hg11, hg12, hg13⟩⟩ := hs
  obtain ⟨⟨hP, hN, hb⟩, hv0, hv1, hF, hK, hT, hC⟩ := hv
  refine mx_iload_n (i := 1) (hi := rfl) (hl := rfl) (hd := dX6_hasPerson_0) ?_
  refine mx_ifR_lt 16 dX6_hasPerson_1 (by decide) (fun c1 => ?_) (fun c1 => ?_)
  · skip
    refine mx_iconstN 0 dX6_hasPerson_16 (by decide) ?_
    exact mx_iret dX6_hasPerson_17 rfl (by decide) (⟨congrArg (fun z => some (Value.int z)) (mx_bF (by omega)), rfl, rfl⟩)
  · skip
    refine mx_iload_n (i := 1) (hi := rfl) (hl := rfl) (hd := dX6_hasPerson_4) ?_
    refine mx_aload_n (i := 0) (hi := rfl) (hl := rfl) (hd := dX6_hasPerson_5) ?_
    refine mx_getV (ci := 6) (k := 0) (nI (gP v)) dX6_hasPerson_6 k_163 (by decide) rfl (by assumption) hv0 ?_
    refine mx_cmpRN_ge 16 dX6_hasPerson_9 (by decide) (by omega) (fun c9 => ?_) (fun c9 => ?_)
    · skip
      refine mx_iconstN 0 dX6_hasPerson_16 (by decide) ?_
      exact mx_iret dX6_hasPerson_17 rfl (by decide) (⟨congrArg (fun z => some (Value.int z)) (mx_bF (by omega)), rfl, rfl⟩)
    · skip
      refine mx_iconstN 1 dX6_hasPerson_12 (by decide) ?_
      refine mx_goto (tgt := 17) dX6_hasPerson_13 (by decide) ?_
      exact mx_iret dX6_hasPerson_17 rfl (by decide) (⟨congrArg (fun z => some (Value.int z)) (mx_bT (by omega)), rfl, rfl⟩)

set_option maxHeartbeats 4000000 in
set_option maxRecDepth 100000 in
theorem ct_hasStep (G : mx_G) (I : mx_I) (o : Nat) (v : Gr) (hs : oST G o) (hv : stN I o v) (p : Int32) : mx_CTp yX6_hasStep mX6_hasStep 1 [.ref o, .int p] G I (some (.int (mx_b (decide (0 ≤ p.toInt ∧ p.toInt < (gN v : Int)))))) := by
  refine mx_start (k := 0) (by decide) rfl rfl (fun h => nomatch h) (Nat.le_of_ble_eq_true rfl) ?_
  show mx_V mX6_hasStep mx_S0 1 0 0 0 [some (.ref o), some (.int p)] [] G I (fun rv Gz Iz => rv = some (.int (mx_b (decide (0 ≤ p.toInt ∧ p.toInt < (gN v : Int))))) ∧ Gz = G ∧ Iz = I) (fun _ _ _ => False)
  obtain ⟨hg0, ⟨hg2, hg3, hg4⟩, ⟨hg5, hg6, hg7⟩, ⟨hg8, hg9, hg10⟩, ⟨hg11, hg12, hg13⟩⟩ := hs
  obtain ⟨⟨hP, hN, hb⟩, hv0, hv1, hF, hK, hT, hC⟩ := hv
  refine mx_iload_n (i := 1) (hi := rfl) (hl := rfl) (hd := dX6_hasStep_0) ?_
  refine mx_ifR_lt 16 dX6_hasStep_1 (by decide) (fun c1 => ?_) (fun c1 => ?_)
  · skip
    refine mx_iconstN 0 dX6_hasStep_16 (by decide) ?_
    exact mx_iret dX6_hasStep_17 rfl (by decide) (⟨congrArg (fun z => some (Value.int z)) (mx_bF (by omega)), rfl, rfl⟩)
  · skip
    refine mx_iload_n (i := 1) (hi := rfl) (hl := rfl) (hd := dX6_hasStep_4) ?_
    refine mx_aload_n (i := 0) (hi := rfl) (hl := rfl) (hd := dX6_hasStep_5) ?_
    refine mx_getV (ci := 6) (k := 1) (nI (gN v)) dX6_hasStep_6 k_168 (by decide) rfl (by assumption) hv1 ?_
    refine mx_cmpRN_ge 16 dX6_hasStep_9 (by decide) (by omega) (fun c9 => ?_) (fun c9 => ?_)
    · skip
      refine mx_iconstN 0 dX6_hasStep_16 (by decide) ?_
      exact mx_iret dX6_hasStep_17 rfl (by decide) (⟨congrArg (fun z => some (Value.int z)) (mx_bF (by omega)), rfl, rfl⟩)
    · skip
      refine mx_iconstN 1 dX6_hasStep_12 (by decide) ?_
      refine mx_goto (tgt := 17) dX6_hasStep_13 (by decide) ?_
      exact mx_iret dX6_hasStep_17 rfl (by decide) (⟨congrArg (fun z => some (Value.int z)) (mx_bT (by omega)), rfl, rfl⟩)

set_option maxHeartbeats 4000000 in
set_option maxRecDepth 100000 in
theorem ct_hasPeople (G : mx_G) (I : mx_I) (o : Nat) (v : Gr) (hs : oST G o) (hv : stN I o v) (p q : Int32) : mx_CTp yX6_hasPeople mX6_hasPeople 2 [.ref o, .int p, .int q] G I (some (.int (mx_b (decide ((0 ≤ p.toInt ∧ p.toInt < (gP v : Int)) ∧ (0 ≤ q.toInt ∧ q.toInt < (gP v : Int))))))) := by
  refine mx_start (k := 0) (by decide) rfl rfl (fun h => nomatch h) (Nat.le_of_ble_eq_true rfl) ?_
  show mx_V mX6_hasPeople mx_S0 2 0 0 0 [some (.ref o), some (.int p), some (.int q)] [] G I (fun rv Gz Iz => rv = some (.int (mx_b (decide ((0 ≤ p.toInt ∧ p.toInt < (gP v : Int)) ∧ (0 ≤ q.toInt ∧ q.toInt < (gP v : Int)))))) ∧ Gz = G ∧ Iz = I) (fun _ _ _ => False)
  have hs0 := hs
  have hv0' := hv
  obtain ⟨hg0, ⟨hg2, hg3, hg4⟩, ⟨hg5, hg6, hg7⟩, ⟨hg8, hg9, hg10⟩, ⟨hg11, hg12, hg13⟩⟩ := hs
  obtain ⟨⟨hP, hN, hb⟩, hv0, hv1, hF, hK, hT, hC⟩ := hv
  refine mx_aload_n (i := 0) (hi := rfl) (hl := rfl) (hd := dX6_hasPeople_0) ?_
  refine mx_iload_n (i := 1) (hi := rfl) (hl := rfl) (hd := dX6_hasPeople_1) ?_
  refine mx_callVp (ci := 6) (As := [.int p]) (rest := []) dX6_hasPeople_2 (ct_hasPerson G I o v hs0 hv0' p) km_X6_hasPerson rfl k_469 k_470 k_471 (by assumption) rfl rfl (Nat.le_of_ble_eq_true rfl) (by decide) ?_
  refine mx_ifB_eq 20 dX6_hasPeople_5 (by decide) (fun c5 => ?_) (fun c5 => ?_)
  · skip
    refine mx_iconstN 0 dX6_hasPeople_20 (by decide) ?_
    exact mx_iret dX6_hasPeople_21 rfl (by decide) (⟨congrArg (fun z => some (Value.int z)) (mx_bF (by omega)), rfl, rfl⟩)
  · skip
    refine mx_aload_n (i := 0) (hi := rfl) (hl := rfl) (hd := dX6_hasPeople_8) ?_
    refine mx_iload_n (i := 2) (hi := rfl) (hl := rfl) (hd := dX6_hasPeople_9) ?_
    refine mx_callVp (ci := 6) (As := [.int q]) (rest := []) dX6_hasPeople_10 (ct_hasPerson G I o v hs0 hv0' q) km_X6_hasPerson rfl k_469 k_470 k_471 (by assumption) rfl rfl (Nat.le_of_ble_eq_true rfl) (by decide) ?_
    refine mx_ifB_eq 20 dX6_hasPeople_13 (by decide) (fun c13 => ?_) (fun c13 => ?_)
    · skip
      refine mx_iconstN 0 dX6_hasPeople_20 (by decide) ?_
      exact mx_iret dX6_hasPeople_21 rfl (by decide) (⟨congrArg (fun z => some (Value.int z)) (mx_bF (by omega)), rfl, rfl⟩)
    · skip
      refine mx_iconstN 1 dX6_hasPeople_16 (by decide) ?_
      refine mx_goto (tgt := 21) dX6_hasPeople_17 (by decide) ?_
      exact mx_iret dX6_hasPeople_21 rfl (by decide) (⟨congrArg (fun z => some (Value.int z)) (mx_bT (by omega)), rfl, rfl⟩)

set_option maxHeartbeats 4000000 in
set_option maxRecDepth 100000 in
theorem ct_indexOf (G : mx_G) (I : mx_I) (o : Nat) (v : Gr) (hs : oST G o) (hv : stN I o v) (p k q : Nat) (hp : p < 2 ^ 31) (hk : k < 2 ^ 31) (hq : q < 2 ^ 31) : mx_CTp yX6_indexOf mX6_indexOf 1 [.ref o, .int (nI p), .int (nI k), .int (nI q)] G I (some (.int (oI (gIx v p k q)))) := by
  refine mx_start (k := 1) (by decide) rfl rfl (fun h => nomatch h) (Nat.le_of_ble_eq_true rfl) ?_
  show mx_V mX6_indexOf mx_S0 1 0 0 0 [some (.ref o), some (.int (nI p)), some (.int (nI k)), some (.int (nI q)), none] [] G I (fun rv Gz Iz => rv = some (.int (oI (gIx v p k q))) ∧ Gz = G ∧ Iz = I) (fun _ _ _ => False)
  obtain ⟨hg0, ⟨hg2, hg3, hg4⟩, ⟨hg5, hg6, hg7⟩, ⟨hg8, hg9, hg10⟩, ⟨hg11, hg12, hg13⟩⟩ := hs
  obtain ⟨⟨hP, hN, hb⟩, hv0, hv1, hF, hK, hT, hC⟩ := hv
  have L3 : ∀ (fq : Nat) (s : Nat), gN v - s < fq → (s ≤ gN v) → (gIx v p k q = gIxF v p k q (gN v - s) s) → mx_V mX6_indexOf mx_S0 1 0 0 3 [some (.ref o), some (.int (nI p)), some (.int (nI k)), some (.int (nI q)), some (.int (nI s))] [] G I (fun rv Gz Iz => rv = some (.int (oI (gIx v p k q))) ∧ Gz = G ∧ Iz = I) (fun _ _ _ => False) := by
    intro fq
    induction fq with
    | zero => intro s hfu; exact absurd hfu (Nat.not_lt_zero _)
    | succ fq ih =>
      intro s hfu hsn hx
      refine mx_iload (i := 4) (hl := rfl) (hd := dX6_indexOf_3) ?_
      refine mx_aload_n (i := 0) (hi := rfl) (hl := rfl) (hd := dX6_indexOf_5) ?_
      refine mx_getV (ci := 6) (k := 1) (nI (gN v)) dX6_indexOf_6 k_168 (by decide) rfl (by assumption) hv1 ?_
      refine mx_cmpN_ge 54 dX6_indexOf_9 (by decide) (by omega) (by omega) (fun c9 => ?_) (fun c9 => ?_)
      · skip
        refine mx_bipush (v := (-9)) (by decide) dX6_indexOf_54 ?_
        exact mx_iret dX6_indexOf_56 rfl rfl (⟨by rw [hx, show gN v - s = 0 by omega, gIxF]; rfl, rfl, rfl⟩)
      · skip
        refine mx_aload_n (i := 0) (hi := rfl) (hl := rfl) (hd := dX6_indexOf_12) ?_
        refine mx_getR (ci := 6) (k := 2) (r := (o + 1)) dX6_indexOf_13 k_173 (by decide) rfl (by assumption) (by assumption) (by omega) ?_
        refine mx_iload (i := 4) (hl := rfl) (hd := dX6_indexOf_16) ?_
        refine mx_ialdV s (nI (gF v s)) dX6_indexOf_18 (by assumption) ⟨rfl, by omega, by omega⟩ (hF s (by omega)) ?_
        refine mx_iload_n (i := 1) (hi := rfl) (hl := rfl) (hd := dX6_indexOf_19) ?_
        refine mx_cmpN_ne 48 dX6_indexOf_20 (by decide) (by have := hb s (by omega); omega) (by omega) (fun c20 => ?_) (fun c20 => ?_)
        · skip
          refine mx_iincE (i := 4) (ls' := [some (.ref o), some (.int (nI p)), some (.int (nI k)), some (.int (nI q)), some (.int (nI (s + 1)))]) 1 dX6_indexOf_48 rfl (by decide) (by decide) rfl rfl ?_
          refine mx_goto (tgt := 3) dX6_indexOf_51 (by decide) ?_
          exact ih (s + 1) (by omega) (by omega) (by rw [hx, show gN v - s = gN v - (s + 1) + 1 by omega, gIxF, if_neg (by omega)])
        · skip
          refine mx_aload_n (i := 0) (hi := rfl) (hl := rfl) (hd := dX6_indexOf_23) ?_
          refine mx_getR (ci := 6) (k := 3) (r := (o + 2)) dX6_indexOf_24 k_178 (by decide) rfl (by assumption) (by assumption) (by omega) ?_
          refine mx_iload (i := 4) (hl := rfl) (hd := dX6_indexOf_27) ?_
          refine mx_ialdV s (nI (gK v s)) dX6_indexOf_29 (by assumption) ⟨rfl, by omega, by omega⟩ (hK s (by omega)) ?_
          refine mx_iload_n (i := 2) (hi := rfl) (hl := rfl) (hd := dX6_indexOf_30) ?_
          refine mx_cmpN_ne 48 dX6_indexOf_31 (by decide) (by have := hb s (by omega); omega) (by omega) (fun c31 => ?_) (fun c31 => ?_)
          · skip
            refine mx_iincE (i := 4) (ls' := [some (.ref o), some (.int (nI p)), some (.int (nI k)), some (.int (nI q)), some (.int (nI (s + 1)))]) 1 dX6_indexOf_48 rfl (by decide) (by decide) rfl rfl ?_
            refine mx_goto (tgt := 3) dX6_indexOf_51 (by decide) ?_
            exact ih (s + 1) (by omega) (by omega) (by rw [hx, show gN v - s = gN v - (s + 1) + 1 by omega, gIxF, if_neg (by omega)])
          · skip
            refine mx_aload_n (i := 0) (hi := rfl) (hl := rfl) (hd := dX6_indexOf_34) ?_
            refine mx_getR (ci := 6) (k := 4) (r := (o + 3)) dX6_indexOf_35 k_181 (by decide) rfl (by assumption) (by assumption) (by omega) ?_
            refine mx_iload (i := 4) (hl := rfl) (hd := dX6_indexOf_38) ?_
            refine mx_ialdV s (nI (gT v s)) dX6_indexOf_40 (by assumption) ⟨rfl, by omega, by omega⟩ (hT s (by omega)) ?_
            refine mx_iload_n (i := 3) (hi := rfl) (hl := rfl) (hd := dX6_indexOf_41) ?_
            refine mx_cmpN_ne 48 dX6_indexOf_42 (by decide) (by have := hb s (by omega); omega) (by omega) (fun c42 => ?_) (fun c42 => ?_)
            · skip
              refine mx_iincE (i := 4) (ls' := [some (.ref o), some (.int (nI p)), some (.int (nI k)), some (.int (nI q)), some (.int (nI (s + 1)))]) 1 dX6_indexOf_48 rfl (by decide) (by decide) rfl rfl ?_
              refine mx_goto (tgt := 3) dX6_indexOf_51 (by decide) ?_
              exact ih (s + 1) (by omega) (by omega) (by rw [hx, show gN v - s = gN v - (s + 1) + 1 by omega, gIxF, if_neg (by omega)])
            · skip
              refine mx_iload (i := 4) (hl := rfl) (hd := dX6_indexOf_45) ?_
              exact mx_iret dX6_indexOf_47 rfl rfl (⟨by rw [hx, show gN v - s = gN v - (s + 1) + 1 by omega, gIxF, if_pos (by omega)]; rfl, rfl, rfl⟩)
  refine mx_iconstN 0 dX6_indexOf_0 (by decide) ?_
  refine mx_istoreE (i := 4) (ls' := [some (.ref o), some (.int (nI p)), some (.int (nI k)), some (.int (nI q)), some (.int (nI 0))]) (hd := dX6_indexOf_1) (hn := by decide) (hok := rfl) (hls := rfl) ?_
  exact L3 _ 0 (Nat.lt_succ_self _) (Nat.zero_le _) rfl

set_option maxHeartbeats 4000000 in
set_option maxRecDepth 100000 in
theorem ct_beginOf (G : mx_G) (I : mx_I) (o : Nat) (v : Gr) (hs : oST G o) (hv : stN I o v) (s dr : Nat) (hsn : s < gN v) (hd2 : dr < 2 ^ 31) : mx_CTp yX6_beginOf mX6_beginOf 1 [.ref o, .int (nI s), .int (nI dr)] G I (some (.int (nI (if dr = 0 then gF v s else gT v s)))) := by
  refine mx_start (k := 0) (by decide) rfl rfl (fun h => nomatch h) (Nat.le_of_ble_eq_true rfl) ?_
  show mx_V mX6_beginOf mx_S0 1 0 0 0 [some (.ref o), some (.int (nI s)), some (.int (nI dr))] [] G I (fun rv Gz Iz => rv = some (.int (nI (if dr = 0 then gF v s else gT v s))) ∧ Gz = G ∧ Iz = I) (fun _ _ _ => False)
  obtain ⟨hg0, ⟨hg2, hg3, hg4⟩, ⟨hg5, hg6, hg7⟩, ⟨hg8, hg9, hg10⟩, ⟨hg11, hg12, hg13⟩⟩ := hs
  obtain ⟨⟨hP, hN, hb⟩, hv0, hv1, hF, hK, hT, hC⟩ := hv
  refine mx_iload_n (i := 2) (hi := rfl) (hl := rfl) (hd := dX6_beginOf_0) ?_
  refine mx_ifN_ne 13 dX6_beginOf_1 (by decide) (by omega) (fun c1 => ?_) (fun c1 => ?_)
  · skip
    refine mx_aload_n (i := 0) (hi := rfl) (hl := rfl) (hd := dX6_beginOf_13) ?_
    refine mx_getR (ci := 6) (k := 4) (r := (o + 3)) dX6_beginOf_14 k_181 (by decide) rfl (by assumption) (by assumption) (by omega) ?_
    refine mx_iload_n (i := 1) (hi := rfl) (hl := rfl) (hd := dX6_beginOf_17) ?_
    refine mx_ialdV s (nI (gT v s)) dX6_beginOf_18 (by assumption) ⟨rfl, by omega, by omega⟩ (hT s (by omega)) ?_
    exact mx_iret dX6_beginOf_19 rfl rfl (⟨by rw [if_neg (by omega)], rfl, rfl⟩)
  · skip
    refine mx_aload_n (i := 0) (hi := rfl) (hl := rfl) (hd := dX6_beginOf_4) ?_
    refine mx_getR (ci := 6) (k := 2) (r := (o + 1)) dX6_beginOf_5 k_173 (by decide) rfl (by assumption) (by assumption) (by omega) ?_
    refine mx_iload_n (i := 1) (hi := rfl) (hl := rfl) (hd := dX6_beginOf_8) ?_
    refine mx_ialdV s (nI (gF v s)) dX6_beginOf_9 (by assumption) ⟨rfl, by omega, by omega⟩ (hF s (by omega)) ?_
    refine mx_goto (tgt := 19) dX6_beginOf_10 (by decide) ?_
    exact mx_iret dX6_beginOf_19 rfl rfl (⟨by rw [if_pos (by omega)], rfl, rfl⟩)

set_option maxHeartbeats 4000000 in
set_option maxRecDepth 100000 in
theorem ct_endOf (G : mx_G) (I : mx_I) (o : Nat) (v : Gr) (hs : oST G o) (hv : stN I o v) (s dr : Nat) (hsn : s < gN v) (hd2 : dr < 2 ^ 31) : mx_CTp yX6_endOf mX6_endOf 1 [.ref o, .int (nI s), .int (nI dr)] G I (some (.int (nI (if dr = 0 then gT v s else gF v s)))) := by
  refine mx_start (k := 0) (by decide) rfl rfl (fun h => nomatch h) (Nat.le_of_ble_eq_true rfl) ?_
  show mx_V mX6_endOf mx_S0 1 0 0 0 [some (.ref o), some (.int (nI s)), some (.int (nI dr))] [] G I (fun rv Gz Iz => rv = some (.int (nI (if dr = 0 then gT v s else gF v s))) ∧ Gz = G ∧ Iz = I) (fun _ _ _ => False)
  obtain ⟨hg0, ⟨hg2, hg3, hg4⟩, ⟨hg5, hg6, hg7⟩, ⟨hg8, hg9, hg10⟩, ⟨hg11, hg12, hg13⟩⟩ := hs
  obtain ⟨⟨hP, hN, hb⟩, hv0, hv1, hF, hK, hT, hC⟩ := hv
  refine mx_iload_n (i := 2) (hi := rfl) (hl := rfl) (hd := dX6_endOf_0) ?_
  refine mx_ifN_ne 13 dX6_endOf_1 (by decide) (by omega) (fun c1 => ?_) (fun c1 => ?_)
  · skip
    refine mx_aload_n (i := 0) (hi := rfl) (hl := rfl) (hd := dX6_endOf_13) ?_
    refine mx_getR (ci := 6) (k := 2) (r := (o + 1)) dX6_endOf_14 k_173 (by decide) rfl (by assumption) (by assumption) (by omega) ?_
    refine mx_iload_n (i := 1) (hi := rfl) (hl := rfl) (hd := dX6_endOf_17) ?_
    refine mx_ialdV s (nI (gF v s)) dX6_endOf_18 (by assumption) ⟨rfl, by omega, by omega⟩ (hF s (by omega)) ?_
    exact mx_iret dX6_endOf_19 rfl rfl (⟨by rw [if_neg (by omega)], rfl, rfl⟩)
  · skip
    refine mx_aload_n (i := 0) (hi := rfl) (hl := rfl) (hd := dX6_endOf_4) ?_
    refine mx_getR (ci := 6) (k := 4) (r := (o + 3)) dX6_endOf_5 k_181 (by decide) rfl (by assumption) (by assumption) (by omega) ?_
    refine mx_iload_n (i := 1) (hi := rfl) (hl := rfl) (hd := dX6_endOf_8) ?_
    refine mx_ialdV s (nI (gT v s)) dX6_endOf_9 (by assumption) ⟨rfl, by omega, by omega⟩ (hT s (by omega)) ?_
    refine mx_goto (tgt := 19) dX6_endOf_10 (by decide) ?_
    exact mx_iret dX6_endOf_19 rfl rfl (⟨by rw [if_pos (by omega)], rfl, rfl⟩)

theorem gIxF_lt (v : Gr) (p k q : Nat) : ∀ (f s r : Nat), gIxF v p k q f s = some r → s ≤ r ∧ r < s + f ∧ gF v r = p ∧ gK v r = k ∧ gT v r = q
  | 0, s, r, h => by simp [gIxF] at h
  | f + 1, s, r, h => by
    unfold gIxF at h
    split at h
    · next c =>
      have : s = r := by simpa using h
      subst this
      exact ⟨by omega, by omega, c⟩
    · have := gIxF_lt v p k q f (s + 1) r h
      omega
theorem gIx_lt {v : Gr} {p k q r : Nat} (h : gIx v p k q = some r) : r < gN v := by have := gIxF_lt v p k q _ _ _ h; omega
theorem oI_iff {x : Option Nat} (h : ∀ s, x = some s → s < 2 ^ 31) : oI x = -9 ↔ x = none := by
  cases x with
  | none => exact ⟨fun _ => rfl, fun _ => rfl⟩
  | some s =>
    refine ⟨fun e => ?_, fun e => nomatch e⟩
    have h1 := nI_toInt (h s rfl)
    have h2 : (nI s).toInt = -9 := by rw [show nI s = -9 from e]; decide
    omega
theorem gIx_iff {v : Gr} (hv : gN v ≤ 25) {p k q : Nat} : oI (gIx v p k q) = -9 ↔ gIx v p k q = none := oI_iff (fun s hs => by have := gIx_lt hs; omega)
theorem mx_nn {x : Int32} (h : 0 ≤ x.toInt) : nI x.toInt.toNat = x := by
  have hx := Int32.toInt_lt x
  exact Int32.toInt_inj.mp (by rw [nI_toInt (by omega)]; omega)
theorem ct_indexOfR (G : mx_G) (I : mx_I) (o : Nat) (v : Gr) (hs : oST G o) (hv : stN I o v) (p k q : Int32) (hp : 0 ≤ p.toInt) (hk : 0 ≤ k.toInt) (hq : 0 ≤ q.toInt) : mx_CTp yX6_indexOf mX6_indexOf 1 [.ref o, .int p, .int k, .int q] G I (some (.int (oI (gIx v p.toInt.toNat k.toInt.toNat q.toInt.toNat)))) := by
  have h := ct_indexOf G I o v hs hv p.toInt.toNat k.toInt.toNat q.toInt.toNat (by have := Int32.toInt_lt p; omega) (by have := Int32.toInt_lt k; omega) (by have := Int32.toInt_lt q; omega)
  rw [mx_nn hp, mx_nn hk, mx_nn hq] at h
  exact h
/-- why a step cannot be added: 0 if it can -/
def gWhy (v : Gr) (p k q c : Int32) : Nat :=
  if ¬ ((0 ≤ p.toInt ∧ p.toInt < (gP v : Int)) ∧ (0 ≤ q.toInt ∧ q.toInt < (gP v : Int))) then 1
  else if p = q ∨ ¬ (0 ≤ k.toInt ∧ k.toInt < 4) ∨ ¬ (1 ≤ c.toInt ∧ c.toInt ≤ 9) then 2
  else if gIx v p.toInt.toNat k.toInt.toNat q.toInt.toNat ≠ none ∨ 24 ≤ gN v then 3 else 0

set_option maxHeartbeats 4000000 in
set_option maxRecDepth 100000 in
theorem ct_isKind (G : mx_G) (I : mx_I) (p : Int32) : mx_CTp yX9_isKind mX9_isKind 1 [.int p] G I (some (.int (mx_b (decide (0 ≤ p.toInt ∧ p.toInt < 4))))) := by
  refine mx_start (k := 0) (by decide) rfl rfl (fun h => nomatch h) (Nat.le_of_ble_eq_true rfl) ?_
  show mx_V mX9_isKind mx_S0 1 0 0 0 [some (.int p)] [] G I (fun rv Gz Iz => rv = some (.int (mx_b (decide (0 ≤ p.toInt ∧ p.toInt < 4)))) ∧ Gz = G ∧ Iz = I) (fun _ _ _ => False)
  refine mx_iload_n (i := 0) (hi := rfl) (hl := rfl) (hd := dX9_isKind_0) ?_
  refine mx_ifR_lt 13 dX9_isKind_1 (by decide) (fun c1 => ?_) (fun c1 => ?_)
  · skip
    refine mx_iconstN 0 dX9_isKind_13 (by decide) ?_
    exact mx_iret dX9_isKind_14 rfl (by decide) (⟨congrArg (fun z => some (Value.int z)) (mx_bF (by omega)), rfl, rfl⟩)
  · skip
    refine mx_iload_n (i := 0) (hi := rfl) (hl := rfl) (hd := dX9_isKind_4) ?_
    refine mx_iconstN 4 dX9_isKind_5 (by decide) ?_
    refine mx_cmpRN_ge 13 dX9_isKind_6 (by decide) (by omega) (fun c6 => ?_) (fun c6 => ?_)
    · skip
      refine mx_iconstN 0 dX9_isKind_13 (by decide) ?_
      exact mx_iret dX9_isKind_14 rfl (by decide) (⟨congrArg (fun z => some (Value.int z)) (mx_bF (by omega)), rfl, rfl⟩)
    · skip
      refine mx_iconstN 1 dX9_isKind_9 (by decide) ?_
      refine mx_goto (tgt := 14) dX9_isKind_10 (by decide) ?_
      exact mx_iret dX9_isKind_14 rfl (by decide) (⟨congrArg (fun z => some (Value.int z)) (mx_bT (by omega)), rfl, rfl⟩)

set_option maxHeartbeats 4000000 in
set_option maxRecDepth 100000 in
theorem ct_isCost (G : mx_G) (I : mx_I) (p : Int32) : mx_CTp yX9_isCost mX9_isCost 1 [.int p] G I (some (.int (mx_b (decide (1 ≤ p.toInt ∧ p.toInt ≤ 9))))) := by
  refine mx_start (k := 0) (by decide) rfl rfl (fun h => nomatch h) (Nat.le_of_ble_eq_true rfl) ?_
  show mx_V mX9_isCost mx_S0 1 0 0 0 [some (.int p)] [] G I (fun rv Gz Iz => rv = some (.int (mx_b (decide (1 ≤ p.toInt ∧ p.toInt ≤ 9)))) ∧ Gz = G ∧ Iz = I) (fun _ _ _ => False)
  refine mx_iload_n (i := 0) (hi := rfl) (hl := rfl) (hd := dX9_isCost_0) ?_
  refine mx_iconstN 1 dX9_isCost_1 (by decide) ?_
  refine mx_cmpRN_lt 15 dX9_isCost_2 (by decide) (by omega) (fun c2 => ?_) (fun c2 => ?_)
  · skip
    refine mx_iconstN 0 dX9_isCost_15 (by decide) ?_
    exact mx_iret dX9_isCost_16 rfl (by decide) (⟨congrArg (fun z => some (Value.int z)) (mx_bF (by omega)), rfl, rfl⟩)
  · skip
    refine mx_iload_n (i := 0) (hi := rfl) (hl := rfl) (hd := dX9_isCost_5) ?_
    refine mx_bipushN 9 dX9_isCost_6 (by decide) ?_
    refine mx_cmpRN_gt 15 dX9_isCost_8 (by decide) (by omega) (fun c8 => ?_) (fun c8 => ?_)
    · skip
      refine mx_iconstN 0 dX9_isCost_15 (by decide) ?_
      exact mx_iret dX9_isCost_16 rfl (by decide) (⟨congrArg (fun z => some (Value.int z)) (mx_bF (by omega)), rfl, rfl⟩)
    · skip
      refine mx_iconstN 1 dX9_isCost_11 (by decide) ?_
      refine mx_goto (tgt := 16) dX9_isCost_12 (by decide) ?_
      exact mx_iret dX9_isCost_16 rfl (by decide) (⟨congrArg (fun z => some (Value.int z)) (mx_bT (by omega)), rfl, rfl⟩)

set_option maxHeartbeats 4000000 in
set_option maxRecDepth 100000 in
theorem ct_faultOfAdding (G : mx_G) (I : mx_I) (o : Nat) (v : Gr) (hs : oST G o) (hv : stN I o v) (p k q c : Int32) : mx_CTp yX6_faultOfAdding mX6_faultOfAdding 3 [.ref o, .int p, .int k, .int q, .int c] G I (some (.int (nI (gWhy v p k q c)))) := by
  refine mx_start (k := 0) (by decide) rfl rfl (fun h => nomatch h) (Nat.le_of_ble_eq_true rfl) ?_
  show mx_V mX6_faultOfAdding mx_S0 3 0 0 0 [some (.ref o), some (.int p), some (.int k), some (.int q), some (.int c)] [] G I (fun rv Gz Iz => rv = some (.int (nI (gWhy v p k q c))) ∧ Gz = G ∧ Iz = I) (fun _ _ _ => False)
  have hs0 := hs
  have hv0' := hv
  obtain ⟨hg0, ⟨hg2, hg3, hg4⟩, ⟨hg5, hg6, hg7⟩, ⟨hg8, hg9, hg10⟩, ⟨hg11, hg12, hg13⟩⟩ := hs
  obtain ⟨⟨hP, hN, hb⟩, hv0, hv1, hF, hK, hT, hC⟩ := hv
  refine mx_aload_n (i := 0) (hi := rfl) (hl := rfl) (hd := dX6_faultOfAdding_0) ?_
  refine mx_iload_n (i := 1) (hi := rfl) (hl := rfl) (hd := dX6_faultOfAdding_1) ?_
  refine mx_iload_n (i := 3) (hi := rfl) (hl := rfl) (hd := dX6_faultOfAdding_2) ?_
  refine mx_callVp (ci := 6) (As := [.int p, .int q]) (rest := []) dX6_faultOfAdding_3 (ct_hasPeople G I o v hs0 hv0' p q) km_X6_hasPeople rfl k_465 k_466 k_467 (by assumption) rfl rfl (Nat.le_of_ble_eq_true rfl) (by decide) ?_
  refine mx_ifB_ne 11 dX6_faultOfAdding_6 (by decide) (fun c6 => ?_) (fun c6 => ?_)
  · skip
    refine mx_iload_n (i := 1) (hi := rfl) (hl := rfl) (hd := dX6_faultOfAdding_11) ?_
    refine mx_iload_n (i := 3) (hi := rfl) (hl := rfl) (hd := dX6_faultOfAdding_12) ?_
    refine mx_icmp_eq (tgt := 31) dX6_faultOfAdding_13 (by decide) (fun c13 => ?_) (fun c13 => ?_)
    · skip
      refine mx_iconstN 2 dX6_faultOfAdding_31 (by decide) ?_
      exact mx_iret dX6_faultOfAdding_32 rfl rfl (⟨by unfold gWhy; rw [if_neg (fun q => q c6), if_pos (by first | exact Or.inl c13 | exact Or.inr (Or.inl c20) | exact Or.inr (Or.inr c28))], rfl, rfl⟩)
    · skip
      refine mx_iload_n (i := 2) (hi := rfl) (hl := rfl) (hd := dX6_faultOfAdding_16) ?_
      refine mx_callSNp (As := [.int k]) (rest := []) dX6_faultOfAdding_17 (ct_isKind G I k) km_X9_isKind rfl k_473 k_474 rfl rfl (Nat.le_of_ble_eq_true rfl) (by decide) ?_
      refine mx_ifB_eq 31 dX6_faultOfAdding_20 (by decide) (fun c20 => ?_) (fun c20 => ?_)
      · skip
        refine mx_iconstN 2 dX6_faultOfAdding_31 (by decide) ?_
        exact mx_iret dX6_faultOfAdding_32 rfl rfl (⟨by unfold gWhy; rw [if_neg (fun q => q c6), if_pos (by first | exact Or.inl c13 | exact Or.inr (Or.inl c20) | exact Or.inr (Or.inr c28))], rfl, rfl⟩)
      · skip
        refine mx_iload (i := 4) (hl := rfl) (hd := dX6_faultOfAdding_23) ?_
        refine mx_callSNp (As := [.int c]) (rest := []) dX6_faultOfAdding_25 (ct_isCost G I c) km_X9_isCost rfl k_476 k_477 rfl rfl (Nat.le_of_ble_eq_true rfl) (by decide) ?_
        refine mx_ifB_ne 33 dX6_faultOfAdding_28 (by decide) (fun c28 => ?_) (fun c28 => ?_)
        · skip
          refine mx_aload_n (i := 0) (hi := rfl) (hl := rfl) (hd := dX6_faultOfAdding_33) ?_
          refine mx_iload_n (i := 1) (hi := rfl) (hl := rfl) (hd := dX6_faultOfAdding_34) ?_
          refine mx_iload_n (i := 2) (hi := rfl) (hl := rfl) (hd := dX6_faultOfAdding_35) ?_
          refine mx_iload_n (i := 3) (hi := rfl) (hl := rfl) (hd := dX6_faultOfAdding_36) ?_
          refine mx_callVp (ci := 6) (As := [.int p, .int k, .int q]) (rest := []) dX6_faultOfAdding_37 (ct_indexOfR G I o v hs0 hv0' p k q c6.1.1 c20.1 c6.2.1) km_X6_indexOf rfl k_479 k_480 k_481 (by assumption) rfl rfl (Nat.le_of_ble_eq_true rfl) (by decide) ?_
          refine mx_bipush (v := (-9)) (by decide) dX6_faultOfAdding_40 ?_
          refine mx_icmp_ne (tgt := 54) dX6_faultOfAdding_42 (by decide) (fun c42 => ?_) (fun c42 => ?_)
          · skip
            refine mx_iconstN 3 dX6_faultOfAdding_54 (by decide) ?_
            refine mx_goto (tgt := 59) dX6_faultOfAdding_55 (by decide) ?_
            exact mx_iret dX6_faultOfAdding_59 rfl rfl (⟨by unfold gWhy; rw [if_neg (fun q => q c6), if_neg (fun q => q.elim c13 (fun q => q.elim (fun q => q c20) (fun q => q c28)))]; rw [if_pos (by first | exact Or.inl (fun q => c42 ((gIx_iff hN).mpr q)) | exact Or.inr (by omega))], rfl, rfl⟩)
          · skip
            refine mx_aload_n (i := 0) (hi := rfl) (hl := rfl) (hd := dX6_faultOfAdding_45) ?_
            refine mx_getV (ci := 6) (k := 1) (nI (gN v)) dX6_faultOfAdding_46 k_168 (by decide) rfl (by assumption) hv1 ?_
            refine mx_bipushN 24 dX6_faultOfAdding_49 (by decide) ?_
            refine mx_cmpN_lt 58 dX6_faultOfAdding_51 (by decide) (by omega) (by omega) (fun c51 => ?_) (fun c51 => ?_)
            · skip
              refine mx_iconstN 0 dX6_faultOfAdding_58 (by decide) ?_
              exact mx_iret dX6_faultOfAdding_59 rfl rfl (⟨by unfold gWhy; rw [if_neg (fun q => q c6), if_neg (fun q => q.elim c13 (fun q => q.elim (fun q => q c20) (fun q => q c28)))]; rw [if_neg (fun q => q.elim (fun q => q ((gIx_iff hN).mp c42)) (fun q => by omega))], rfl, rfl⟩)
            · skip
              refine mx_iconstN 3 dX6_faultOfAdding_54 (by decide) ?_
              refine mx_goto (tgt := 59) dX6_faultOfAdding_55 (by decide) ?_
              exact mx_iret dX6_faultOfAdding_59 rfl rfl (⟨by unfold gWhy; rw [if_neg (fun q => q c6), if_neg (fun q => q.elim c13 (fun q => q.elim (fun q => q c20) (fun q => q c28)))]; rw [if_pos (by first | exact Or.inl (fun q => c42 ((gIx_iff hN).mpr q)) | exact Or.inr (by omega))], rfl, rfl⟩)
        · skip
          refine mx_iconstN 2 dX6_faultOfAdding_31 (by decide) ?_
          exact mx_iret dX6_faultOfAdding_32 rfl rfl (⟨by unfold gWhy; rw [if_neg (fun q => q c6), if_pos (by first | exact Or.inl c13 | exact Or.inr (Or.inl c20) | exact Or.inr (Or.inr c28))], rfl, rfl⟩)
  · skip
    refine mx_iconstN 1 dX6_faultOfAdding_9 (by decide) ?_
    exact mx_iret dX6_faultOfAdding_10 rfl rfl (⟨by unfold gWhy; rw [if_pos c6], rfl, rfl⟩)

set_option maxHeartbeats 4000000 in
set_option maxRecDepth 100000 in
theorem ct_faultOfCosting (G : mx_G) (I : mx_I) (o : Nat) (v : Gr) (hs : oST G o) (hv : stN I o v) (p c : Int32) : mx_CTp yX6_faultOfCosting mX6_faultOfCosting 2 [.ref o, .int p, .int c] G I (some (.int (nI (if ¬ (0 ≤ p.toInt ∧ p.toInt < (gN v : Int)) then 1 else if 1 ≤ c.toInt ∧ c.toInt ≤ 9 then 0 else 2)))) := by
  refine mx_start (k := 0) (by decide) rfl rfl (fun h => nomatch h) (Nat.le_of_ble_eq_true rfl) ?_
  show mx_V mX6_faultOfCosting mx_S0 2 0 0 0 [some (.ref o), some (.int p), some (.int c)] [] G I (fun rv Gz Iz => rv = some (.int (nI (if ¬ (0 ≤ p.toInt ∧ p.toInt < (gN v : Int)) then 1 else if 1 ≤ c.toInt ∧ c.toInt ≤ 9 then 0 else 2))) ∧ Gz = G ∧ Iz = I) (fun _ _ _ => False)
  have hs0 := hs
  have hv0' := hv
  obtain ⟨hg0, ⟨hg2, hg3, hg4⟩, ⟨hg5, hg6, hg7⟩, ⟨hg8, hg9, hg10⟩, ⟨hg11, hg12, hg13⟩⟩ := hs
  obtain ⟨⟨hP, hN, hb⟩, hv0, hv1, hF, hK, hT, hC⟩ := hv
  refine mx_aload_n (i := 0) (hi := rfl) (hl := rfl) (hd := dX6_faultOfCosting_0) ?_
  refine mx_iload_n (i := 1) (hi := rfl) (hl := rfl) (hd := dX6_faultOfCosting_1) ?_
  refine mx_callVp (ci := 6) (As := [.int p]) (rest := []) dX6_faultOfCosting_2 (ct_hasStep G I o v hs0 hv0' p) km_X6_hasStep rfl k_507 k_492 k_493 (by assumption) rfl rfl (Nat.le_of_ble_eq_true rfl) (by decide) ?_
  refine mx_ifB_ne 10 dX6_faultOfCosting_5 (by decide) (fun c5 => ?_) (fun c5 => ?_)
  · skip
    refine mx_iload_n (i := 2) (hi := rfl) (hl := rfl) (hd := dX6_faultOfCosting_10) ?_
    refine mx_callSNp (As := [.int c]) (rest := []) dX6_faultOfCosting_11 (ct_isCost G I c) km_X9_isCost rfl k_476 k_477 rfl rfl (Nat.le_of_ble_eq_true rfl) (by decide) ?_
    refine mx_ifB_eq 21 dX6_faultOfCosting_14 (by decide) (fun c14 => ?_) (fun c14 => ?_)
    · skip
      refine mx_iconstN 2 dX6_faultOfCosting_21 (by decide) ?_
      exact mx_iret dX6_faultOfCosting_22 rfl rfl (⟨by rw [if_neg (fun q => q c5), if_neg c14], rfl, rfl⟩)
    · skip
      refine mx_iconstN 0 dX6_faultOfCosting_17 (by decide) ?_
      refine mx_goto (tgt := 22) dX6_faultOfCosting_18 (by decide) ?_
      exact mx_iret dX6_faultOfCosting_22 rfl rfl (⟨by rw [if_neg (fun q => q c5), if_pos c14], rfl, rfl⟩)
  · skip
    refine mx_iconstN 1 dX6_faultOfCosting_8 (by decide) ?_
    exact mx_iret dX6_faultOfCosting_9 rfl rfl (⟨by rw [if_pos c5], rfl, rfl⟩)

set_option maxHeartbeats 4000000 in
set_option maxRecDepth 100000 in
theorem ct_faultOfReversing (G : mx_G) (I : mx_I) (o : Nat) (v : Gr) (hs : oST G o) (hv : stN I o v) (p : Int32) : mx_CTp yX6_faultOfReversing mX6_faultOfReversing 2 [.ref o, .int p] G I (some (.int (nI (if ¬ (0 ≤ p.toInt ∧ p.toInt < (gN v : Int)) then 1 else if gIx v (gT v p.toInt.toNat) (gK v p.toInt.toNat) (gF v p.toInt.toNat) = none then 0 else 3)))) := by
  refine mx_start (k := 0) (by decide) rfl rfl (fun h => nomatch h) (Nat.le_of_ble_eq_true rfl) ?_
  show mx_V mX6_faultOfReversing mx_S0 2 0 0 0 [some (.ref o), some (.int p)] [] G I (fun rv Gz Iz => rv = some (.int (nI (if ¬ (0 ≤ p.toInt ∧ p.toInt < (gN v : Int)) then 1 else if gIx v (gT v p.toInt.toNat) (gK v p.toInt.toNat) (gF v p.toInt.toNat) = none then 0 else 3))) ∧ Gz = G ∧ Iz = I) (fun _ _ _ => False)
  have hs0 := hs
  have hv0' := hv
  obtain ⟨hg0, ⟨hg2, hg3, hg4⟩, ⟨hg5, hg6, hg7⟩, ⟨hg8, hg9, hg10⟩, ⟨hg11, hg12, hg13⟩⟩ := hs
  obtain ⟨⟨hP, hN, hb⟩, hv0, hv1, hF, hK, hT, hC⟩ := hv
  refine mx_aload_n (i := 0) (hi := rfl) (hl := rfl) (hd := dX6_faultOfReversing_0) ?_
  refine mx_iload_n (i := 1) (hi := rfl) (hl := rfl) (hd := dX6_faultOfReversing_1) ?_
  refine mx_callVp (ci := 6) (As := [.int p]) (rest := []) dX6_faultOfReversing_2 (ct_hasStep G I o v hs0 hv0' p) km_X6_hasStep rfl k_507 k_492 k_493 (by assumption) rfl rfl (Nat.le_of_ble_eq_true rfl) (by decide) ?_
  refine mx_ifB_ne 10 dX6_faultOfReversing_5 (by decide) (fun c5 => ?_) (fun c5 => ?_)
  · skip
    refine mx_aload_n (i := 0) (hi := rfl) (hl := rfl) (hd := dX6_faultOfReversing_10) ?_
    refine mx_aload_n (i := 0) (hi := rfl) (hl := rfl) (hd := dX6_faultOfReversing_11) ?_
    refine mx_getR (ci := 6) (k := 4) (r := (o + 3)) dX6_faultOfReversing_12 k_181 (by decide) rfl (by assumption) (by assumption) (by omega) ?_
    refine mx_iload_n (i := 1) (hi := rfl) (hl := rfl) (hd := dX6_faultOfReversing_15) ?_
    refine mx_ialdV p.toInt.toNat (nI (gT v p.toInt.toNat)) dX6_faultOfReversing_16 (by assumption) ⟨(mx_nn c5.1).symm, by omega, by omega⟩ (hT p.toInt.toNat (by omega)) ?_
    refine mx_aload_n (i := 0) (hi := rfl) (hl := rfl) (hd := dX6_faultOfReversing_17) ?_
    refine mx_getR (ci := 6) (k := 3) (r := (o + 2)) dX6_faultOfReversing_18 k_178 (by decide) rfl (by assumption) (by assumption) (by omega) ?_
    refine mx_iload_n (i := 1) (hi := rfl) (hl := rfl) (hd := dX6_faultOfReversing_21) ?_
    refine mx_ialdV p.toInt.toNat (nI (gK v p.toInt.toNat)) dX6_faultOfReversing_22 (by assumption) ⟨(mx_nn c5.1).symm, by omega, by omega⟩ (hK p.toInt.toNat (by omega)) ?_
    refine mx_aload_n (i := 0) (hi := rfl) (hl := rfl) (hd := dX6_faultOfReversing_23) ?_
    refine mx_getR (ci := 6) (k := 2) (r := (o + 1)) dX6_faultOfReversing_24 k_173 (by decide) rfl (by assumption) (by assumption) (by omega) ?_
    refine mx_iload_n (i := 1) (hi := rfl) (hl := rfl) (hd := dX6_faultOfReversing_27) ?_
    refine mx_ialdV p.toInt.toNat (nI (gF v p.toInt.toNat)) dX6_faultOfReversing_28 (by assumption) ⟨(mx_nn c5.1).symm, by omega, by omega⟩ (hF p.toInt.toNat (by omega)) ?_
    refine mx_callVp (ci := 6) (As := [.int (nI (gT v p.toInt.toNat)), .int (nI (gK v p.toInt.toNat)), .int (nI (gF v p.toInt.toNat))]) (rest := []) dX6_faultOfReversing_29 (ct_indexOf G I o v hs0 hv0' (gT v p.toInt.toNat) (gK v p.toInt.toNat) (gF v p.toInt.toNat) (by have := hb p.toInt.toNat (by omega); omega) (by have := hb p.toInt.toNat (by omega); omega) (by have := hb p.toInt.toNat (by omega); omega)) km_X6_indexOf rfl k_479 k_480 k_481 (by assumption) rfl rfl (Nat.le_of_ble_eq_true rfl) (by decide) ?_
    refine mx_bipush (v := (-9)) (by decide) dX6_faultOfReversing_32 ?_
    refine mx_icmp_ne (tgt := 41) dX6_faultOfReversing_34 (by decide) (fun c34 => ?_) (fun c34 => ?_)
    · skip
      refine mx_iconstN 3 dX6_faultOfReversing_41 (by decide) ?_
      exact mx_iret dX6_faultOfReversing_42 rfl rfl (⟨by rw [if_neg (fun q => q c5), if_neg (fun q => c34 ((gIx_iff hN).mpr q))], rfl, rfl⟩)
    · skip
      refine mx_iconstN 0 dX6_faultOfReversing_37 (by decide) ?_
      refine mx_goto (tgt := 42) dX6_faultOfReversing_38 (by decide) ?_
      exact mx_iret dX6_faultOfReversing_42 rfl rfl (⟨by rw [if_neg (fun q => q c5), if_pos ((gIx_iff hN).mp c34)], rfl, rfl⟩)
  · skip
    refine mx_iconstN 1 dX6_faultOfReversing_8 (by decide) ?_
    exact mx_iret dX6_faultOfReversing_9 rfl rfl (⟨by rw [if_pos c5], rfl, rfl⟩)

set_option maxHeartbeats 4000000 in
set_option maxRecDepth 100000 in
theorem ct_countOf (G : mx_G) (I : mx_I) (o : Nat) (v : Gr) (hs : oST G o) (hv : stN I o v) (a : Nat) (g : Nat → Nat) (p : Nat) (hp : p < 2 ^ 31) (ha : mx_tg G a = 1) (ha2 : mx_ln G a = 25) (hg : arN I a g (gN v)) (hgb : ∀ s, s < gN v → g s < 8) : mx_CTp yX6_countOf mX6_countOf 1 [.ref o, .ref a, .int (nI p)] G I (some (.int (nI (gCnt g p (gN v))))) := by
  refine mx_start (k := 2) (by decide) rfl rfl (fun h => nomatch h) (Nat.le_of_ble_eq_true rfl) ?_
  show mx_V mX6_countOf mx_S0 1 0 0 0 [some (.ref o), some (.ref a), some (.int (nI p)), none, none] [] G I (fun rv Gz Iz => rv = some (.int (nI (gCnt g p (gN v)))) ∧ Gz = G ∧ Iz = I) (fun _ _ _ => False)
  obtain ⟨hg0, ⟨hg2, hg3, hg4⟩, ⟨hg5, hg6, hg7⟩, ⟨hg8, hg9, hg10⟩, ⟨hg11, hg12, hg13⟩⟩ := hs
  obtain ⟨⟨hP, hN, hb⟩, hv0, hv1, hF, hK, hT, hC⟩ := hv
  have L5 : ∀ (fq : Nat) (s n : Nat), gN v - s < fq → (s ≤ gN v) → (n = gCnt g p s) → mx_V mX6_countOf mx_S0 1 0 0 5 [some (.ref o), some (.ref a), some (.int (nI p)), some (.int (nI n)), some (.int (nI s))] [] G I (fun rv Gz Iz => rv = some (.int (nI (gCnt g p (gN v)))) ∧ Gz = G ∧ Iz = I) (fun _ _ _ => False) := by
    intro fq
    induction fq with
    | zero => intro s n hfu; exact absurd hfu (Nat.not_lt_zero _)
    | succ fq ih =>
      intro s n hfu hsn hx
      refine mx_iload (i := 4) (hl := rfl) (hd := dX6_countOf_5) ?_
      refine mx_aload_n (i := 0) (hi := rfl) (hl := rfl) (hd := dX6_countOf_7) ?_
      refine mx_getV (ci := 6) (k := 1) (nI (gN v)) dX6_countOf_8 k_168 (by decide) rfl (by assumption) hv1 ?_
      refine mx_cmpN_ge 31 dX6_countOf_11 (by decide) (by omega) (by omega) (fun c11 => ?_) (fun c11 => ?_)
      · skip
        refine mx_iload_n (i := 3) (hi := rfl) (hl := rfl) (hd := dX6_countOf_31) ?_
        exact mx_iret dX6_countOf_32 rfl rfl (⟨by rw [hx, show s = gN v by omega], rfl, rfl⟩)
      · skip
        refine mx_aload_n (i := 1) (hi := rfl) (hl := rfl) (hd := dX6_countOf_14) ?_
        refine mx_iload (i := 4) (hl := rfl) (hd := dX6_countOf_15) ?_
        refine mx_ialdV s (nI (g s)) dX6_countOf_17 (by assumption) ⟨rfl, by omega, by omega⟩ (hg s (by omega)) ?_
        refine mx_iload_n (i := 2) (hi := rfl) (hl := rfl) (hd := dX6_countOf_18) ?_
        refine mx_cmpN_ne 25 dX6_countOf_19 (by decide) (by have := hgb s (by omega); omega) (by omega) (fun c19 => ?_) (fun c19 => ?_)
        · skip
          refine mx_iincE (i := 4) (ls' := [some (.ref o), some (.ref a), some (.int (nI p)), some (.int (nI n)), some (.int (nI (s + 1)))]) 1 dX6_countOf_25 rfl (by decide) (by decide) rfl rfl ?_
          refine mx_goto (tgt := 5) dX6_countOf_28 (by decide) ?_
          exact ih (s + 1) _ (by omega) (by omega) (by rw [hx, gCnt, if_neg c19, Nat.add_zero])
        · skip
          refine mx_iincE (i := 3) (ls' := [some (.ref o), some (.ref a), some (.int (nI p)), some (.int (nI (n + 1))), some (.int (nI s))]) 1 dX6_countOf_22 rfl (by decide) (by decide) rfl rfl ?_
          refine mx_iincE (i := 4) (ls' := [some (.ref o), some (.ref a), some (.int (nI p)), some (.int (nI (n + 1))), some (.int (nI (s + 1)))]) 1 dX6_countOf_25 rfl (by decide) (by decide) rfl rfl ?_
          refine mx_goto (tgt := 5) dX6_countOf_28 (by decide) ?_
          exact ih (s + 1) _ (by omega) (by omega) (by rw [hx, gCnt, if_pos c19])
  refine mx_iconstN 0 dX6_countOf_0 (by decide) ?_
  refine mx_istoreE_n (i := 3) (ls' := [some (.ref o), some (.ref a), some (.int (nI p)), some (.int (nI 0)), none]) (hi := rfl) (hd := dX6_countOf_1) (hn := by decide) (hok := rfl) (hls := rfl) ?_
  refine mx_iconstN 0 dX6_countOf_2 (by decide) ?_
  refine mx_istoreE (i := 4) (ls' := [some (.ref o), some (.ref a), some (.int (nI p)), some (.int (nI 0)), some (.int (nI 0))]) (hd := dX6_countOf_3) (hn := by decide) (hok := rfl) (hls := rfl) ?_
  exact L5 _ 0 0 (Nat.lt_succ_self _) (Nat.zero_le _) rfl

set_option maxHeartbeats 4000000 in
set_option maxRecDepth 100000 in
theorem ct_costSum (G : mx_G) (I : mx_I) (o : Nat) (v : Gr) (hs : oST G o) (hv : stN I o v) : mx_CTp yX6_costSum mX6_costSum 1 [.ref o] G I (some (.int (nI (gSum (gC v) (gN v))))) := by
  refine mx_start (k := 2) (by decide) rfl rfl (fun h => nomatch h) (Nat.le_of_ble_eq_true rfl) ?_
  show mx_V mX6_costSum mx_S0 1 0 0 0 [some (.ref o), none, none] [] G I (fun rv Gz Iz => rv = some (.int (nI (gSum (gC v) (gN v)))) ∧ Gz = G ∧ Iz = I) (fun _ _ _ => False)
  obtain ⟨hg0, ⟨hg2, hg3, hg4⟩, ⟨hg5, hg6, hg7⟩, ⟨hg8, hg9, hg10⟩, ⟨hg11, hg12, hg13⟩⟩ := hs
  obtain ⟨⟨hP, hN, hb⟩, hv0, hv1, hF, hK, hT, hC⟩ := hv
  have L4 : ∀ (fq : Nat) (s n : Nat), gN v - s < fq → (s ≤ gN v) → (n = gSum (gC v) s) → mx_V mX6_costSum mx_S0 1 0 0 4 [some (.ref o), some (.int (nI n)), some (.int (nI s))] [] G I (fun rv Gz Iz => rv = some (.int (nI (gSum (gC v) (gN v)))) ∧ Gz = G ∧ Iz = I) (fun _ _ _ => False) := by
    intro fq
    induction fq with
    | zero => intro s n hfu; exact absurd hfu (Nat.not_lt_zero _)
    | succ fq ih =>
      intro s n hfu hsn hx
      refine mx_iload_n (i := 2) (hi := rfl) (hl := rfl) (hd := dX6_costSum_4) ?_
      refine mx_aload_n (i := 0) (hi := rfl) (hl := rfl) (hd := dX6_costSum_5) ?_
      refine mx_getV (ci := 6) (k := 1) (nI (gN v)) dX6_costSum_6 k_168 (by decide) rfl (by assumption) hv1 ?_
      refine mx_cmpN_ge 27 dX6_costSum_9 (by decide) (by omega) (by omega) (fun c9 => ?_) (fun c9 => ?_)
      · skip
        refine mx_iload_n (i := 1) (hi := rfl) (hl := rfl) (hd := dX6_costSum_27) ?_
        exact mx_iret dX6_costSum_28 rfl rfl (⟨by rw [hx, show s = gN v by omega], rfl, rfl⟩)
      · skip
        refine mx_iload_n (i := 1) (hi := rfl) (hl := rfl) (hd := dX6_costSum_12) ?_
        refine mx_aload_n (i := 0) (hi := rfl) (hl := rfl) (hd := dX6_costSum_13) ?_
        refine mx_getR (ci := 6) (k := 5) (r := (o + 4)) dX6_costSum_14 k_186 (by decide) rfl (by assumption) (by assumption) (by omega) ?_
        refine mx_iload_n (i := 2) (hi := rfl) (hl := rfl) (hd := dX6_costSum_17) ?_
        refine mx_ialdV s (nI (gC v s)) dX6_costSum_18 (by assumption) ⟨rfl, by omega, by omega⟩ (hC s (by omega)) ?_
        refine mx_iaddN dX6_costSum_19 ?_
        refine mx_istoreE_n (i := 1) (ls' := [some (.ref o), some (.int (nI (n + (gC v s)))), some (.int (nI s))]) (hi := rfl) (hd := dX6_costSum_20) (hn := by decide) (hok := rfl) (hls := rfl) ?_
        refine mx_iincE (i := 2) (ls' := [some (.ref o), some (.int (nI (n + (gC v s)))), some (.int (nI (s + 1)))]) 1 dX6_costSum_21 rfl (by decide) (by decide) rfl rfl ?_
        refine mx_goto (tgt := 4) dX6_costSum_24 (by decide) ?_
        exact ih (s + 1) _ (by omega) (by omega) (by rw [hx, gSum])
  refine mx_iconstN 0 dX6_costSum_0 (by decide) ?_
  refine mx_istoreE_n (i := 1) (ls' := [some (.ref o), some (.int (nI 0)), none]) (hi := rfl) (hd := dX6_costSum_1) (hn := by decide) (hok := rfl) (hls := rfl) ?_
  refine mx_iconstN 0 dX6_costSum_2 (by decide) ?_
  refine mx_istoreE_n (i := 2) (ls' := [some (.ref o), some (.int (nI 0)), some (.int (nI 0))]) (hi := rfl) (hd := dX6_costSum_3) (hn := by decide) (hok := rfl) (hls := rfl) ?_
  exact L4 _ 0 0 (Nat.lt_succ_self _) (Nat.zero_le _) rfl

def gPut (v : Gr) (p k q c : Nat) : Gr := (gP v, gN v + 1, fun s => if s = gN v then p else gF v s, fun s => if s = gN v then k else gK v s, fun s => if s = gN v then q else gT v s, fun s => if s = gN v then c else gC v s)
theorem arN.u {I : mx_I} {a n k x : Nat} {g : Nat → Nat} (h : arN I a g n) : arN (mx_u I a k (nI x)) a (fun s => if s = k then x else g s) n := by
  intro s hs
  rw [mx_u_at]
  by_cases e : s = k
  · rw [if_pos ⟨rfl, e⟩]; simp [e]
  · rw [if_neg (fun q => e q.2), h s hs]; simp [e]
theorem arN.o {I : mx_I} {a b n k : Nat} {x : Int32} {g : Nat → Nat} (h : arN I a g n) (hne : a ≠ b) : arN (mx_u I b k x) a g n := by
  intro s hs
  rw [mx_u_at, if_neg (fun q => hne q.1)]
  exact h s hs
theorem arN.c {I : mx_I} {a n : Nat} {g g' : Nat → Nat} (h : arN I a g n) (e : ∀ s, s < n → g s = g' s) : arN I a g' n := fun s hs => by rw [h s hs, e s hs]
theorem arN.up {I : mx_I} {a n x : Nat} {g : Nat → Nat} (h : arN I a g n) : arN (mx_u I a n (nI x)) a (fun s => if s = n then x else g s) (n + 1) := by
  intro s hs
  rw [mx_u_at]
  by_cases e : s = n
  · rw [if_pos ⟨rfl, e⟩]; simp [e]
  · rw [if_neg (fun q => e q.2), h s (by omega)]; simp [e]
theorem arN.f {I I' : mx_I} {a n lo hi : Nat} {g : Nat → Nat} (h : arN I a g n) (f : mx_fr I I' lo hi) (d : a < lo ∨ hi ≤ a) : arN I' a g n := fun s hs => by rw [f a d]; exact h s hs

set_option maxHeartbeats 4000000 in
set_option maxRecDepth 100000 in
theorem ct_put (G : mx_G) (I : mx_I) (o : Nat) (v : Gr) (hs : oST G o) (hv : stN I o v) (p k q c : Nat) (hp : p < 8) (hk : k < 4) (hq : q < 8) (hc : 1 ≤ c ∧ c ≤ 9) (h24 : gN v ≤ 24) : mx_CTi yX6_put mX6_put 1 [.ref o, .int (nI p), .int (nI k), .int (nI q), .int (nI c)] G I (fun rv I1 => rv = some (.int (nI (gN v))) ∧ stN I1 o (gPut v p k q c) ∧ mx_fr I I1 o (o + 5)) := by
  refine mx_start (k := 0) (by decide) rfl rfl (fun h => nomatch h) (Nat.le_of_ble_eq_true rfl) ?_
  show mx_V mX6_put mx_S0 1 0 0 0 [some (.ref o), some (.int (nI p)), some (.int (nI k)), some (.int (nI q)), some (.int (nI c))] [] G I (fun rv Gz Iz => (fun rv I1 => rv = some (.int (nI (gN v))) ∧ stN I1 o (gPut v p k q c) ∧ mx_fr I I1 o (o + 5)) rv Iz ∧ Gz = G) (fun _ _ _ => False)
  obtain ⟨hg0, ⟨hg2, hg3, hg4⟩, ⟨hg5, hg6, hg7⟩, ⟨hg8, hg9, hg10⟩, ⟨hg11, hg12, hg13⟩⟩ := hs
  obtain ⟨⟨hP, hN, hb⟩, hv0, hv1, hF, hK, hT, hC⟩ := hv
  refine mx_aload_n (i := 0) (hi := rfl) (hl := rfl) (hd := dX6_put_0) ?_
  refine mx_getV (ci := 6) (k := 1) (nI (gN v)) dX6_put_1 k_168 (by decide) rfl (by assumption) hv1 ?_
  refine mx_bipushN 24 dX6_put_4 (by decide) ?_
  refine mx_cmpN_le 12 dX6_put_6 (by decide) (by omega) (by omega) (fun c6 => ?_) (fun c6 => ?_)
  · skip
    refine mx_aload_n (i := 0) (hi := rfl) (hl := rfl) (hd := dX6_put_12) ?_
    refine mx_getR (ci := 6) (k := 2) (r := (o + 1)) dX6_put_13 k_173 (by decide) rfl (by assumption) (by assumption) (by omega) ?_
    refine mx_aload_n (i := 0) (hi := rfl) (hl := rfl) (hd := dX6_put_16) ?_
    refine mx_getV (ci := 6) (k := 1) (nI (gN v)) dX6_put_17 k_168 (by decide) rfl (by assumption) hv1 ?_
    refine mx_iload_n (i := 1) (hi := rfl) (hl := rfl) (hd := dX6_put_20) ?_
    refine mx_iast (gN v) dX6_put_21 (by assumption) ⟨rfl, by omega, by omega⟩ ?_
    refine mx_aload_n (i := 0) (hi := rfl) (hl := rfl) (hd := dX6_put_22) ?_
    refine mx_getR (ci := 6) (k := 3) (r := (o + 2)) dX6_put_23 k_178 (by decide) rfl (by assumption) (by assumption) (by omega) ?_
    refine mx_aload_n (i := 0) (hi := rfl) (hl := rfl) (hd := dX6_put_26) ?_
    refine mx_getV (ci := 6) (k := 1) (nI (gN v)) dX6_put_27 k_168 (by decide) rfl (by assumption) (by rw [mx_u_at, if_neg (by omega)]; exact hv1) ?_
    refine mx_iload_n (i := 2) (hi := rfl) (hl := rfl) (hd := dX6_put_30) ?_
    refine mx_iast (gN v) dX6_put_31 (by assumption) ⟨rfl, by omega, by omega⟩ ?_
    refine mx_aload_n (i := 0) (hi := rfl) (hl := rfl) (hd := dX6_put_32) ?_
    refine mx_getR (ci := 6) (k := 4) (r := (o + 3)) dX6_put_33 k_181 (by decide) rfl (by assumption) (by assumption) (by omega) ?_
    refine mx_aload_n (i := 0) (hi := rfl) (hl := rfl) (hd := dX6_put_36) ?_
    refine mx_getV (ci := 6) (k := 1) (nI (gN v)) dX6_put_37 k_168 (by decide) rfl (by assumption) (by rw [mx_u_at, if_neg (by omega), mx_u_at, if_neg (by omega)]; exact hv1) ?_
    refine mx_iload_n (i := 3) (hi := rfl) (hl := rfl) (hd := dX6_put_40) ?_
    refine mx_iast (gN v) dX6_put_41 (by assumption) ⟨rfl, by omega, by omega⟩ ?_
    refine mx_aload_n (i := 0) (hi := rfl) (hl := rfl) (hd := dX6_put_42) ?_
    refine mx_getR (ci := 6) (k := 5) (r := (o + 4)) dX6_put_43 k_186 (by decide) rfl (by assumption) (by assumption) (by omega) ?_
    refine mx_aload_n (i := 0) (hi := rfl) (hl := rfl) (hd := dX6_put_46) ?_
    refine mx_getV (ci := 6) (k := 1) (nI (gN v)) dX6_put_47 k_168 (by decide) rfl (by assumption) (by rw [mx_u_at, if_neg (by omega), mx_u_at, if_neg (by omega), mx_u_at, if_neg (by omega)]; exact hv1) ?_
    refine mx_iload (i := 4) (hl := rfl) (hd := dX6_put_50) ?_
    refine mx_iast (gN v) dX6_put_52 (by assumption) ⟨rfl, by omega, by omega⟩ ?_
    refine mx_aload_n (i := 0) (hi := rfl) (hl := rfl) (hd := dX6_put_53) ?_
    refine mx_dup (hva := rfl) (hd := dX6_put_54) ?_
    refine mx_getV (ci := 6) (k := 1) (nI (gN v)) dX6_put_55 k_168 (by decide) rfl (by assumption) (by rw [mx_u_at, if_neg (by omega), mx_u_at, if_neg (by omega), mx_u_at, if_neg (by omega), mx_u_at, if_neg (by omega)]; exact hv1) ?_
    refine mx_iconstN 1 dX6_put_58 (by decide) ?_
    refine mx_iaddN dX6_put_59 ?_
    refine mx_putI (ci := 6) (k := 1) dX6_put_60 k_168 (by decide) rfl rfl rfl rfl (by assumption) ?_
    refine mx_aload_n (i := 0) (hi := rfl) (hl := rfl) (hd := dX6_put_63) ?_
    refine mx_getV (ci := 6) (k := 1) (nI (gN v + 1)) dX6_put_64 k_168 (by decide) rfl (by assumption) (by rw [mx_u_at, if_pos ⟨rfl, rfl⟩]) ?_
    refine mx_iconstN 1 dX6_put_67 (by decide) ?_
    refine mx_isubN dX6_put_68 (by omega) ?_
    refine mx_iret dX6_put_69 rfl rfl (⟨⟨rfl, ⟨⟨hP, by show gN v + 1 ≤ 25; omega, fun s hs => ?_⟩, ?_, ?_, ?_, ?_, ?_, ?_⟩, ?_⟩, rfl⟩)
    · show (if s = gN v then p else gF v s) < 8 ∧ (if s = gN v then k else gK v s) < 4 ∧ (if s = gN v then q else gT v s) < 8 ∧ 1 ≤ (if s = gN v then c else gC v s) ∧ (if s = gN v then c else gC v s) ≤ 9
      by_cases e : s = gN v
      · simp only [if_pos e]; omega
      · simp only [if_neg e]; exact hb s (by have : s < gN v + 1 := hs; omega)
    · rw [mx_u_at, if_neg (by omega), mx_u_at, if_neg (by omega), mx_u_at, if_neg (by omega), mx_u_at, if_neg (by omega), mx_u_at, if_neg (by omega)]; exact hv0
    · rw [mx_u_at, if_pos ⟨rfl, rfl⟩]; rfl
    · exact (((hF.up.o (by omega)).o (by omega)).o (by omega)).o (by omega)
    · exact ((((hK.o (by omega)).up).o (by omega)).o (by omega)).o (by omega)
    · exact ((((hT.o (by omega)).o (by omega)).up).o (by omega)).o (by omega)
    · exact ((((hC.o (by omega)).o (by omega)).o (by omega)).up).o (by omega)
    · exact (((((mx_fr.rf I o (o + 5)).u (by omega)).u (by omega)).u (by omega)).u (by omega)).u (by omega)
  · skip
    refine mx_bipush (v := (-9)) (by decide) dX6_put_9 ?_
    exact mx_iret dX6_put_11 rfl rfl (absurd h24 (by omega))
