/-! THE CLASSES Pattern, Piece, Wheel. A pattern's numbers: letters, after, before, entered, accepting, size, characters -/
abbrev Pa : Type := Nat × (Nat → Nat) × (Nat → Nat) × (Nat → Nat) × Nat × Nat × (Nat → Nat)
abbrev pL (A : Pa) : Nat := A.1
abbrev pA (A : Pa) : Nat → Nat := A.2.1
abbrev pB (A : Pa) : Nat → Nat := A.2.2.1
abbrev pE (A : Pa) : Nat → Nat := A.2.2.2.1
abbrev pAc (A : Pa) : Nat := A.2.2.2.2.1
abbrev pSz (A : Pa) : Nat := A.2.2.2.2.2.1
abbrev pCh (A : Pa) : Nat → Nat := A.2.2.2.2.2.2
def oPT (G : mx_G) (o : Nat) : Prop := mx_tg G o = 12 ∧ (mx_rf G o 0 = o + 1 ∧ mx_tg G (o + 1) = 2 ∧ mx_ln G (o + 1) = 40) ∧ (mx_rf G o 3 = o + 2 ∧ mx_tg G (o + 2) = 1 ∧ mx_ln G (o + 2) = 21) ∧ (mx_rf G o 4 = o + 3 ∧ mx_tg G (o + 3) = 1 ∧ mx_ln G (o + 3) = 21) ∧ (mx_rf G o 5 = o + 4 ∧ mx_tg G (o + 4) = 1 ∧ mx_ln G (o + 4) = 8)
def wfP (A : Pa) : Prop := pL A ≤ 20 ∧ (∀ i, i < 21 → pA A i < 2 ^ 21) ∧ (∀ i, i < 21 → pB A i < 2 ^ 21) ∧ (∀ i, i < 8 → pE A i < 2 ^ 21) ∧ pAc A < 2 ^ 21 ∧ pSz A ≤ 40 ∧ ∀ i, i < pSz A → pCh A i < 256
def ptN (I : mx_I) (o : Nat) (A : Pa) : Prop := wfP A ∧ I o 1 = nI (pSz A) ∧ I o 2 = nI (pL A) ∧ I o 6 = nI (pAc A) ∧ arN I (o + 1) (pCh A) (pSz A) ∧ arN I (o + 2) (pA A) 21 ∧ arN I (o + 3) (pB A) 21 ∧ arN I (o + 4) (pE A) 8
theorem ptN.fr {I I' : mx_I} {o lo hi : Nat} {A : Pa} (h : ptN I o A) (f : mx_fr I I' lo hi) (d : o + 5 ≤ lo ∨ hi ≤ o) : ptN I' o A := by
  obtain ⟨h1, h3, h4, h5, h6, h7, h8, h9⟩ := h
  have e0 := f o (by omega)
  exact ⟨h1, by rw [e0]; exact h3, by rw [e0]; exact h4, by rw [e0]; exact h5, h6.f f (by omega), h7.f f (by omega), h8.f f (by omega), h9.f f (by omega)⟩
/-- all that comes behind some positions -/
def orF (af : Nat → Nat) (ps : Nat) : Nat → Nat
  | 0 => 0
  | i + 1 => orF af ps i ||| (if ps.testBit i = true then af i else 0)
theorem orF_up {af : Nat → Nat} {ps i : Nat} (h : ∀ j, i ≤ j → ps.testBit j = false) : ∀ n, i ≤ n → orF af ps n = orF af ps i := by
  intro n hn
  induction n with
  | zero => rw [show i = 0 by omega]
  | succ n ih =>
    by_cases e : i = n + 1
    · rw [e]
    · rw [orF, h n (by omega), if_neg (by decide), Nat.or_zero]
      exact ih (by omega)
theorem orF_lt {af : Nat → Nat} {ps n : Nat} (h : ∀ i, i < n → af i < 2 ^ 21) : ∀ i, i ≤ n → orF af ps i < 2 ^ 21 := by
  intro i hi
  induction i with
  | zero => exact Nat.two_pow_pos 21
  | succ i ih =>
    unfold orF
    refine mx_or_lt (ih (by omega)) ?_
    split
    · exact h i (by omega)
    · exact Nat.two_pow_pos 21
def pFol (A : Pa) (ps : Nat) : Nat := orF (pA A) ps 21
def isLet (c : Nat) : Prop := (97 ≤ c ∧ c ≤ 100) ∨ (65 ≤ c ∧ c ≤ 68) ∨ c = 46
def isEnd (c : Nat) : Prop := c = 42 ∨ c = 43 ∨ c = 63
set_option maxHeartbeats 4000000 in
set_option maxRecDepth 100000 in
theorem ct_isLetter (G : mx_G) (I : mx_I) (c : Nat) (hc : c < 65536) : mx_CTp yX2_isLetter mX2_isLetter 1 [.int (nI c)] G I (some (.int (mx_b (decide ((97 ≤ c ∧ c ≤ 100) ∨ (65 ≤ c ∧ c ≤ 68) ∨ c = 46))))) := by
  refine mx_start (k := 0) (by decide) rfl rfl (fun h => nomatch h) (Nat.le_of_ble_eq_true rfl) ?_
  show mx_V mX2_isLetter mx_S0 1 0 0 0 [some (.int (nI c))] [] G I (fun rv Gz Iz => rv = some (.int (mx_b (decide ((97 ≤ c ∧ c ≤ 100) ∨ (65 ≤ c ∧ c ≤ 68) ∨ c = 46)))) ∧ Gz = G ∧ Iz = I) (fun _ _ _ => False)
  refine mx_iload_n (i := 0) (hi := rfl) (hl := rfl) (hd := dX2_isLetter_0) ?_
  refine mx_bipushN 97 dX2_isLetter_1 (by decide) ?_
  refine mx_cmpN_lt 12 dX2_isLetter_3 (by decide) (by omega) (by omega) (fun c3 => ?_) (fun c3 => ?_)
  · skip
    refine mx_iload_n (i := 0) (hi := rfl) (hl := rfl) (hd := dX2_isLetter_12) ?_
    refine mx_bipushN 65 dX2_isLetter_13 (by decide) ?_
    refine mx_cmpN_lt 24 dX2_isLetter_15 (by decide) (by omega) (by omega) (fun c15 => ?_) (fun c15 => ?_)
    · skip
      refine mx_iload_n (i := 0) (hi := rfl) (hl := rfl) (hd := dX2_isLetter_24) ?_
      refine mx_bipushN 46 dX2_isLetter_25 (by decide) ?_
      refine mx_cmpN_ne 34 dX2_isLetter_27 (by decide) (by omega) (by omega) (fun c27 => ?_) (fun c27 => ?_)
      · skip
        refine mx_iconstN 0 dX2_isLetter_34 (by decide) ?_
        exact mx_iret dX2_isLetter_35 rfl (by decide) (⟨congrArg (fun z => some (Value.int z)) (mx_bF (by omega)), rfl, rfl⟩)
      · skip
        refine mx_iconstN 1 dX2_isLetter_30 (by decide) ?_
        refine mx_goto (tgt := 35) dX2_isLetter_31 (by decide) ?_
        exact mx_iret dX2_isLetter_35 rfl (by decide) (⟨congrArg (fun z => some (Value.int z)) (mx_bT (by omega)), rfl, rfl⟩)
    · skip
      refine mx_iload_n (i := 0) (hi := rfl) (hl := rfl) (hd := dX2_isLetter_18) ?_
      refine mx_bipushN 68 dX2_isLetter_19 (by decide) ?_
      refine mx_cmpN_le 30 dX2_isLetter_21 (by decide) (by omega) (by omega) (fun c21 => ?_) (fun c21 => ?_)
      · skip
        refine mx_iconstN 1 dX2_isLetter_30 (by decide) ?_
        refine mx_goto (tgt := 35) dX2_isLetter_31 (by decide) ?_
        exact mx_iret dX2_isLetter_35 rfl (by decide) (⟨congrArg (fun z => some (Value.int z)) (mx_bT (by omega)), rfl, rfl⟩)
      · skip
        refine mx_iload_n (i := 0) (hi := rfl) (hl := rfl) (hd := dX2_isLetter_24) ?_
        refine mx_bipushN 46 dX2_isLetter_25 (by decide) ?_
        refine mx_cmpN_ne 34 dX2_isLetter_27 (by decide) (by omega) (by omega) (fun c27 => ?_) (fun c27 => ?_)
        · skip
          refine mx_iconstN 0 dX2_isLetter_34 (by decide) ?_
          exact mx_iret dX2_isLetter_35 rfl (by decide) (⟨congrArg (fun z => some (Value.int z)) (mx_bF (by omega)), rfl, rfl⟩)
        · skip
          refine mx_iconstN 1 dX2_isLetter_30 (by decide) ?_
          refine mx_goto (tgt := 35) dX2_isLetter_31 (by decide) ?_
          exact mx_iret dX2_isLetter_35 rfl (by decide) (⟨congrArg (fun z => some (Value.int z)) (mx_bT (by omega)), rfl, rfl⟩)
  · skip
    refine mx_iload_n (i := 0) (hi := rfl) (hl := rfl) (hd := dX2_isLetter_6) ?_
    refine mx_bipushN 100 dX2_isLetter_7 (by decide) ?_
    refine mx_cmpN_le 30 dX2_isLetter_9 (by decide) (by omega) (by omega) (fun c9 => ?_) (fun c9 => ?_)
    · skip
      refine mx_iconstN 1 dX2_isLetter_30 (by decide) ?_
      refine mx_goto (tgt := 35) dX2_isLetter_31 (by decide) ?_
      exact mx_iret dX2_isLetter_35 rfl (by decide) (⟨congrArg (fun z => some (Value.int z)) (mx_bT (by omega)), rfl, rfl⟩)
    · skip
      refine mx_iload_n (i := 0) (hi := rfl) (hl := rfl) (hd := dX2_isLetter_12) ?_
      refine mx_bipushN 65 dX2_isLetter_13 (by decide) ?_
      refine mx_cmpN_lt 24 dX2_isLetter_15 (by decide) (by omega) (by omega) (fun c15 => ?_) (fun c15 => ?_)
      · skip
        refine mx_iload_n (i := 0) (hi := rfl) (hl := rfl) (hd := dX2_isLetter_24) ?_
        refine mx_bipushN 46 dX2_isLetter_25 (by decide) ?_
        refine mx_cmpN_ne 34 dX2_isLetter_27 (by decide) (by omega) (by omega) (fun c27 => ?_) (fun c27 => ?_)
        · skip
          refine mx_iconstN 0 dX2_isLetter_34 (by decide) ?_
          exact mx_iret dX2_isLetter_35 rfl (by decide) (⟨congrArg (fun z => some (Value.int z)) (mx_bF (by omega)), rfl, rfl⟩)
        · skip
          refine mx_iconstN 1 dX2_isLetter_30 (by decide) ?_
          refine mx_goto (tgt := 35) dX2_isLetter_31 (by decide) ?_
          exact mx_iret dX2_isLetter_35 rfl (by decide) (⟨congrArg (fun z => some (Value.int z)) (mx_bT (by omega)), rfl, rfl⟩)
      · skip
        refine mx_iload_n (i := 0) (hi := rfl) (hl := rfl) (hd := dX2_isLetter_18) ?_
        refine mx_bipushN 68 dX2_isLetter_19 (by decide) ?_
        refine mx_cmpN_le 30 dX2_isLetter_21 (by decide) (by omega) (by omega) (fun c21 => ?_) (fun c21 => ?_)
        · skip
          refine mx_iconstN 1 dX2_isLetter_30 (by decide) ?_
          refine mx_goto (tgt := 35) dX2_isLetter_31 (by decide) ?_
          exact mx_iret dX2_isLetter_35 rfl (by decide) (⟨congrArg (fun z => some (Value.int z)) (mx_bT (by omega)), rfl, rfl⟩)
        · skip
          refine mx_iload_n (i := 0) (hi := rfl) (hl := rfl) (hd := dX2_isLetter_24) ?_
          refine mx_bipushN 46 dX2_isLetter_25 (by decide) ?_
          refine mx_cmpN_ne 34 dX2_isLetter_27 (by decide) (by omega) (by omega) (fun c27 => ?_) (fun c27 => ?_)
          · skip
            refine mx_iconstN 0 dX2_isLetter_34 (by decide) ?_
            exact mx_iret dX2_isLetter_35 rfl (by decide) (⟨congrArg (fun z => some (Value.int z)) (mx_bF (by omega)), rfl, rfl⟩)
          · skip
            refine mx_iconstN 1 dX2_isLetter_30 (by decide) ?_
            refine mx_goto (tgt := 35) dX2_isLetter_31 (by decide) ?_
            exact mx_iret dX2_isLetter_35 rfl (by decide) (⟨congrArg (fun z => some (Value.int z)) (mx_bT (by omega)), rfl, rfl⟩)

set_option maxHeartbeats 4000000 in
set_option maxRecDepth 100000 in
theorem ct_isEnding (G : mx_G) (I : mx_I) (c : Nat) (hc : c < 65536) : mx_CTp yX2_isEnding mX2_isEnding 1 [.int (nI c)] G I (some (.int (mx_b (decide (c = 42 ∨ c = 43 ∨ c = 63))))) := by
  refine mx_start (k := 0) (by decide) rfl rfl (fun h => nomatch h) (Nat.le_of_ble_eq_true rfl) ?_
  show mx_V mX2_isEnding mx_S0 1 0 0 0 [some (.int (nI c))] [] G I (fun rv Gz Iz => rv = some (.int (mx_b (decide (c = 42 ∨ c = 43 ∨ c = 63)))) ∧ Gz = G ∧ Iz = I) (fun _ _ _ => False)
  refine mx_iload_n (i := 0) (hi := rfl) (hl := rfl) (hd := dX2_isEnding_0) ?_
  refine mx_bipushN 42 dX2_isEnding_1 (by decide) ?_
  refine mx_cmpN_eq 18 dX2_isEnding_3 (by decide) (by omega) (by omega) (fun c3 => ?_) (fun c3 => ?_)
  · skip
    refine mx_iconstN 1 dX2_isEnding_18 (by decide) ?_
    refine mx_goto (tgt := 23) dX2_isEnding_19 (by decide) ?_
    exact mx_iret dX2_isEnding_23 rfl (by decide) (⟨congrArg (fun z => some (Value.int z)) (mx_bT (by omega)), rfl, rfl⟩)
  · skip
    refine mx_iload_n (i := 0) (hi := rfl) (hl := rfl) (hd := dX2_isEnding_6) ?_
    refine mx_bipushN 43 dX2_isEnding_7 (by decide) ?_
    refine mx_cmpN_eq 18 dX2_isEnding_9 (by decide) (by omega) (by omega) (fun c9 => ?_) (fun c9 => ?_)
    · skip
      refine mx_iconstN 1 dX2_isEnding_18 (by decide) ?_
      refine mx_goto (tgt := 23) dX2_isEnding_19 (by decide) ?_
      exact mx_iret dX2_isEnding_23 rfl (by decide) (⟨congrArg (fun z => some (Value.int z)) (mx_bT (by omega)), rfl, rfl⟩)
    · skip
      refine mx_iload_n (i := 0) (hi := rfl) (hl := rfl) (hd := dX2_isEnding_12) ?_
      refine mx_bipushN 63 dX2_isEnding_13 (by decide) ?_
      refine mx_cmpN_ne 22 dX2_isEnding_15 (by decide) (by omega) (by omega) (fun c15 => ?_) (fun c15 => ?_)
      · skip
        refine mx_iconstN 0 dX2_isEnding_22 (by decide) ?_
        exact mx_iret dX2_isEnding_23 rfl (by decide) (⟨congrArg (fun z => some (Value.int z)) (mx_bF (by omega)), rfl, rfl⟩)
      · skip
        refine mx_iconstN 1 dX2_isEnding_18 (by decide) ?_
        refine mx_goto (tgt := 23) dX2_isEnding_19 (by decide) ?_
        exact mx_iret dX2_isEnding_23 rfl (by decide) (⟨congrArg (fun z => some (Value.int z)) (mx_bT (by omega)), rfl, rfl⟩)

set_option maxHeartbeats 4000000 in
set_option maxRecDepth 100000 in
theorem ct_accepts (G : mx_G) (I : mx_I) (o : Nat) (A : Pa) (hs : oPT G o) (hv : ptN I o A) (ps : Nat) (hps : ps < 2 ^ 21) : mx_CTp yX2_accepts mX2_accepts 1 [.ref o, .int (nI ps)] G I (some (.int (mx_b (decide (¬ ps &&& pAc A = 0))))) := by
  refine mx_start (k := 0) (by decide) rfl rfl (fun h => nomatch h) (Nat.le_of_ble_eq_true rfl) ?_
  show mx_V mX2_accepts mx_S0 1 0 0 0 [some (.ref o), some (.int (nI ps))] [] G I (fun rv Gz Iz => rv = some (.int (mx_b (decide (¬ ps &&& pAc A = 0)))) ∧ Gz = G ∧ Iz = I) (fun _ _ _ => False)
  obtain ⟨hg0, ⟨hg2, hg3, hg4⟩, ⟨hg5, hg6, hg7⟩, ⟨hg8, hg9, hg10⟩, ⟨hg11, hg12, hg13⟩⟩ := hs
  obtain ⟨⟨hwL, hwA, hwB, hwE, hwc, hwz, hwx⟩, hv1, hv2, hv6, hCh, hA, hB, hE⟩ := hv
  refine mx_iload_n (i := 1) (hi := rfl) (hl := rfl) (hd := dX2_accepts_0) ?_
  refine mx_aload_n (i := 0) (hi := rfl) (hl := rfl) (hd := dX2_accepts_1) ?_
  refine mx_getV (ci := 2) (k := 6) (nI (pAc A)) dX2_accepts_2 k_94 (by decide) rfl (by assumption) hv6 ?_
  refine mx_iandN dX2_accepts_5 ?_
  refine mx_ifN_eq 13 dX2_accepts_6 (by decide) (by have := mx_and_lt (b := pAc A) hps; omega) (fun c6 => ?_) (fun c6 => ?_)
  · skip
    refine mx_iconstN 0 dX2_accepts_13 (by decide) ?_
    exact mx_iret dX2_accepts_14 rfl (by decide) (⟨congrArg (fun z => some (Value.int z)) (mx_bF (by first | exact c6 | exact fun q => q c6)), rfl, rfl⟩)
  · skip
    refine mx_iconstN 1 dX2_accepts_9 (by decide) ?_
    refine mx_goto (tgt := 14) dX2_accepts_10 (by decide) ?_
    exact mx_iret dX2_accepts_14 rfl (by decide) (⟨congrArg (fun z => some (Value.int z)) (mx_bT (by first | exact c6 | exact fun q => q c6)), rfl, rfl⟩)

set_option maxHeartbeats 4000000 in
set_option maxRecDepth 100000 in
theorem ct_following (G : mx_G) (I : mx_I) (o : Nat) (A : Pa) (hs : oPT G o) (hv : ptN I o A) (ps : Nat) (hps : ps < 2 ^ 21) : mx_CTp yX2_following mX2_following 1 [.ref o, .int (nI ps)] G I (some (.int (nI (pFol A ps)))) := by
  refine mx_start (k := 2) (by decide) rfl rfl (fun h => nomatch h) (Nat.le_of_ble_eq_true rfl) ?_
  show mx_V mX2_following mx_S0 1 0 0 0 [some (.ref o), some (.int (nI ps)), none, none] [] G I (fun rv Gz Iz => rv = some (.int (nI (pFol A ps))) ∧ Gz = G ∧ Iz = I) (fun _ _ _ => False)
  obtain ⟨hg0, ⟨hg2, hg3, hg4⟩, ⟨hg5, hg6, hg7⟩, ⟨hg8, hg9, hg10⟩, ⟨hg11, hg12, hg13⟩⟩ := hs
  obtain ⟨⟨hwL, hwA, hwB, hwE, hwc, hwz, hwx⟩, hv1, hv2, hv6, hCh, hA, hB, hE⟩ := hv
  have L4 : ∀ (fq : Nat) (i n : Nat), 21 - i < fq → (i ≤ 21) → (n = orF (pA A) ps i) → mx_V mX2_following mx_S0 1 0 0 4 [some (.ref o), some (.int (nI ps)), some (.int (nI n)), some (.int (nI i))] [] G I (fun rv Gz Iz => rv = some (.int (nI (pFol A ps))) ∧ Gz = G ∧ Iz = I) (fun _ _ _ => False) := by
    intro fq
    induction fq with
    | zero => intro i n hfu; exact absurd hfu (Nat.not_lt_zero _)
    | succ fq ih =>
      intro i n hfu hi hx
      refine mx_iload_n (i := 3) (hi := rfl) (hl := rfl) (hd := dX2_following_4) ?_
      refine mx_bipushN 21 dX2_following_5 (by decide) ?_
      refine mx_cmpN_ge 39 dX2_following_7 (by decide) (by omega) (by omega) (fun c7 => ?_) (fun c7 => ?_)
      · skip
        refine mx_iload_n (i := 2) (hi := rfl) (hl := rfl) (hd := dX2_following_39) ?_
        exact mx_iret dX2_following_40 rfl rfl (⟨by rw [hx]; refine congrArg (fun z => some (Value.int (nI z))) (Eq.symm ?_); first | exact congrArg _ (show 21 = i by omega) | exact orF_up (fun j hj => mx_shr0 c13 hj) 21 hi, rfl, rfl⟩)
      · skip
        refine mx_iload_n (i := 1) (hi := rfl) (hl := rfl) (hd := dX2_following_10) ?_
        refine mx_iload_n (i := 3) (hi := rfl) (hl := rfl) (hd := dX2_following_11) ?_
        refine mx_ishrN dX2_following_12 (by omega) (by omega) ?_
        refine mx_ifN_eq 39 dX2_following_13 (by decide) (mx_shr_lt (by omega)) (fun c13 => ?_) (fun c13 => ?_)
        · skip
          refine mx_iload_n (i := 2) (hi := rfl) (hl := rfl) (hd := dX2_following_39) ?_
          exact mx_iret dX2_following_40 rfl rfl (⟨by rw [hx]; refine congrArg (fun z => some (Value.int (nI z))) (Eq.symm ?_); first | exact congrArg _ (show 21 = i by omega) | exact orF_up (fun j hj => mx_shr0 c13 hj) 21 hi, rfl, rfl⟩)
        · skip
          refine mx_iload_n (i := 1) (hi := rfl) (hl := rfl) (hd := dX2_following_16) ?_
          refine mx_iload_n (i := 3) (hi := rfl) (hl := rfl) (hd := dX2_following_17) ?_
          refine mx_ishrN dX2_following_18 (by omega) (by omega) ?_
          refine mx_iconstN 1 dX2_following_19 (by decide) ?_
          refine mx_iandN dX2_following_20 ?_
          refine mx_top (mx_bit _ _) ?_
          refine mx_ifB_eq 33 dX2_following_21 (by decide) (fun c21 => ?_) (fun c21 => ?_)
          · skip
            refine mx_iincE (i := 3) (ls' := [some (.ref o), some (.int (nI ps)), some (.int (nI n)), some (.int (nI (i + 1)))]) 1 dX2_following_33 rfl (by decide) (by decide) rfl rfl ?_
            refine mx_goto (tgt := 4) dX2_following_36 (by decide) ?_
            exact ih (i + 1) _ (by omega) (by omega) (by rw [hx, orF, if_neg c21, Nat.or_zero])
          · skip
            refine mx_iload_n (i := 2) (hi := rfl) (hl := rfl) (hd := dX2_following_24) ?_
            refine mx_aload_n (i := 0) (hi := rfl) (hl := rfl) (hd := dX2_following_25) ?_
            refine mx_getR (ci := 2) (k := 3) (r := (o + 2)) dX2_following_26 k_88 (by decide) rfl (by assumption) (by assumption) (by omega) ?_
            refine mx_iload_n (i := 3) (hi := rfl) (hl := rfl) (hd := dX2_following_29) ?_
            refine mx_ialdV i (nI (pA A i)) dX2_following_30 (by assumption) ⟨rfl, by omega, by omega⟩ (hA i (by omega)) ?_
            refine mx_iorN dX2_following_31 ?_
            refine mx_istoreE_n (i := 2) (ls' := [some (.ref o), some (.int (nI ps)), some (.int (nI (n ||| (pA A i)))), some (.int (nI i))]) (hi := rfl) (hd := dX2_following_32) (hn := by decide) (hok := rfl) (hls := rfl) ?_
            refine mx_iincE (i := 3) (ls' := [some (.ref o), some (.int (nI ps)), some (.int (nI (n ||| (pA A i)))), some (.int (nI (i + 1)))]) 1 dX2_following_33 rfl (by decide) (by decide) rfl rfl ?_
            refine mx_goto (tgt := 4) dX2_following_36 (by decide) ?_
            exact ih (i + 1) _ (by omega) (by omega) (by rw [hx, orF, if_pos c21])
  refine mx_iconstN 0 dX2_following_0 (by decide) ?_
  refine mx_istoreE_n (i := 2) (ls' := [some (.ref o), some (.int (nI ps)), some (.int (nI 0)), none]) (hi := rfl) (hd := dX2_following_1) (hn := by decide) (hok := rfl) (hls := rfl) ?_
  refine mx_iconstN 0 dX2_following_2 (by decide) ?_
  refine mx_istoreE_n (i := 3) (ls' := [some (.ref o), some (.int (nI ps)), some (.int (nI 0)), some (.int (nI 0))]) (hi := rfl) (hd := dX2_following_3) (hn := by decide) (hok := rfl) (hls := rfl) ?_
  exact L4 _ 0 0 (Nat.lt_succ_self _) (by decide) rfl

/-- after and before once lasts and firsts are allowed -/
def pAllow (A : Pa) (las fir : Nat) : Pa := (pL A, fun i => if las.testBit i = true then pA A i ||| fir else pA A i, fun i => if fir.testBit i = true then pB A i ||| las else pB A i, pE A, pAc A, pSz A, pCh A)
theorem wfP.allow {A : Pa} (h : wfP A) {las fir : Nat} (h1 : las < 2 ^ 21) (h2 : fir < 2 ^ 21) : wfP (pAllow A las fir) := by
  obtain ⟨a1, a2, a3, a4⟩ := h
  refine ⟨a1, fun i hi => ?_, fun i hi => ?_, a4⟩
  · show (if las.testBit i = true then pA A i ||| fir else pA A i) < 2 ^ 21
    split
    · exact mx_or_lt (a2 i hi) h2
    · exact a2 i hi
  · show (if fir.testBit i = true then pB A i ||| las else pB A i) < 2 ^ 21
    split
    · exact mx_or_lt (a3 i hi) h1
    · exact a3 i hi
def alf (g : Nat → Nat) (b x i j : Nat) : Nat := if j < i ∧ b.testBit j = true then g j ||| x else g j
theorem alf_s (g : Nat → Nat) (b x i : Nat) : alf g b x i i = g i := by unfold alf; rw [if_neg (by omega)]
theorem alf_st (g : Nat → Nat) {b x i : Nat} (h : b.testBit i = true) (j : Nat) : (if j = i then g i ||| x else alf g b x i j) = alf g b x (i + 1) j := by
  unfold alf
  by_cases e : j = i
  · rw [if_pos e, e, if_pos ⟨Nat.lt_succ_self _, h⟩]
  · rw [if_neg e]
    by_cases c : j < i ∧ b.testBit j = true
    · rw [if_pos c, if_pos ⟨by omega, c.2⟩]
    · rw [if_neg c, if_neg (fun q => c ⟨by omega, q.2⟩)]
theorem alf_nt (g : Nat → Nat) {b x i : Nat} (h : ¬ b.testBit i = true) (j : Nat) : alf g b x i j = alf g b x (i + 1) j := by
  unfold alf
  by_cases c : j < i ∧ b.testBit j = true
  · rw [if_pos c, if_pos ⟨by omega, c.2⟩]
  · rw [if_neg c]
    by_cases e : j = i
    · rw [if_neg (fun q => h (e ▸ q.2))]
    · rw [if_neg (fun q => c ⟨by omega, q.2⟩)]
theorem alf_n (g : Nat → Nat) (b x n j : Nat) (hj : j < n) : alf g b x n j = if b.testBit j = true then g j ||| x else g j := by
  unfold alf
  by_cases c : b.testBit j = true
  · rw [if_pos ⟨hj, c⟩, if_pos c]
  · rw [if_neg (fun q => c q.2), if_neg c]

set_option maxHeartbeats 4000000 in
set_option maxRecDepth 100000 in
theorem ct_allow (G : mx_G) (I : mx_I) (o : Nat) (A : Pa) (hs : oPT G o) (hv : ptN I o A) (las fir : Nat) (hl : las < 2 ^ 21) (hf : fir < 2 ^ 21) : mx_CTi yX2_allow mX2_allow 1 [.ref o, .int (nI las), .int (nI fir)] G I (fun rv I1 => rv = none ∧ ptN I1 o (pAllow A las fir) ∧ mx_fr I I1 o (o + 5)) := by
  refine mx_start (k := 1) (by decide) rfl rfl (fun h => nomatch h) (Nat.le_of_ble_eq_true rfl) ?_
  show mx_V mX2_allow mx_S0 1 0 0 0 [some (.ref o), some (.int (nI las)), some (.int (nI fir)), none] [] G I (fun rv Gz Iz => (fun rv I1 => rv = none ∧ ptN I1 o (pAllow A las fir) ∧ mx_fr I I1 o (o + 5)) rv Iz ∧ Gz = G) (fun _ _ _ => False)
  have hw := hv.1
  obtain ⟨hg0, ⟨hg2, hg3, hg4⟩, ⟨hg5, hg6, hg7⟩, ⟨hg8, hg9, hg10⟩, ⟨hg11, hg12, hg13⟩⟩ := hs
  obtain ⟨⟨hwL, hwA, hwB, hwE, hwc, hwz, hwx⟩, hv1, hv2, hv6, hCh, hA, hB, hE⟩ := hv
  have L2 : ∀ (fq : Nat) (i : Nat) (I1 : mx_I), 21 - i < fq → (i ≤ 21) → (arN I1 (o + 2) (alf (pA A) las fir i) 21) → (arN I1 (o + 3) (alf (pB A) fir las i) 21) → (∀ a j : Nat, a ≠ o + 2 → a ≠ o + 3 → I1 a j = I a j) → (mx_fr I I1 o (o + 5)) → mx_V mX2_allow mx_S0 1 0 0 2 [some (.ref o), some (.int (nI las)), some (.int (nI fir)), some (.int (nI i))] [] G I1 (fun rv Gz Iz => (fun rv I1 => rv = none ∧ ptN I1 o (pAllow A las fir) ∧ mx_fr I I1 o (o + 5)) rv Iz ∧ Gz = G) (fun _ _ _ => False) := by
    intro fq
    induction fq with
    | zero => intro i I1 hfu; exact absurd hfu (Nat.not_lt_zero _)
    | succ fq ih =>
      intro i I1 hfu hi a1 a2 hoth hfr
      refine mx_iload_n (i := 3) (hi := rfl) (hl := rfl) (hd := dX2_allow_2) ?_
      refine mx_bipushN 21 dX2_allow_3 (by decide) ?_
      refine mx_cmpN_ge 50 dX2_allow_5 (by decide) (by omega) (by omega) (fun c5 => ?_) (fun c5 => ?_)
      · skip
        refine mx_vret dX2_allow_50 rfl (⟨⟨rfl, ⟨hw.allow hl hf, ?_, ?_, ?_, ?_, ?_, ?_, ?_⟩, hfr⟩, rfl⟩)
        · rw [hoth _ _ (by omega) (by omega)]; exact hv1
        · rw [hoth _ _ (by omega) (by omega)]; exact hv2
        · rw [hoth _ _ (by omega) (by omega)]; exact hv6
        · exact fun s hs => by rw [hoth _ _ (by omega) (by omega)]; exact hCh s hs
        · exact (a1.c (fun j hj => alf_n _ _ _ _ _ (by omega)))
        · exact (a2.c (fun j hj => alf_n _ _ _ _ _ (by omega)))
        · exact fun s hs => by rw [hoth _ _ (by omega) (by omega)]; exact hE s hs
      · skip
        refine mx_iload_n (i := 1) (hi := rfl) (hl := rfl) (hd := dX2_allow_8) ?_
        refine mx_iload_n (i := 3) (hi := rfl) (hl := rfl) (hd := dX2_allow_9) ?_
        refine mx_ishrN dX2_allow_10 (by omega) (by omega) ?_
        refine mx_iconstN 1 dX2_allow_11 (by decide) ?_
        refine mx_iandN dX2_allow_12 ?_
        refine mx_top (mx_bit _ _) ?_
        refine mx_ifB_eq 26 dX2_allow_13 (by decide) (fun c13 => ?_) (fun c13 => ?_)
        · skip
          refine mx_iload_n (i := 2) (hi := rfl) (hl := rfl) (hd := dX2_allow_26) ?_
          refine mx_iload_n (i := 3) (hi := rfl) (hl := rfl) (hd := dX2_allow_27) ?_
          refine mx_ishrN dX2_allow_28 (by omega) (by omega) ?_
          refine mx_iconstN 1 dX2_allow_29 (by decide) ?_
          refine mx_iandN dX2_allow_30 ?_
          refine mx_top (mx_bit _ _) ?_
          refine mx_ifB_eq 44 dX2_allow_31 (by decide) (fun c31 => ?_) (fun c31 => ?_)
          · skip
            refine mx_iincE (i := 3) (ls' := [some (.ref o), some (.int (nI las)), some (.int (nI fir)), some (.int (nI (i + 1)))]) 1 dX2_allow_44 rfl (by decide) (by decide) rfl rfl ?_
            refine mx_goto (tgt := 2) dX2_allow_47 (by decide) ?_
            exact ih (i + 1) _ (by omega) (by omega) (a1.c (fun j _ => alf_nt _ c13 j)) (a2.c (fun j _ => alf_nt _ c31 j)) (by intro a j h1 h2; exact hoth a j h1 h2) hfr
          · skip
            refine mx_aload_n (i := 0) (hi := rfl) (hl := rfl) (hd := dX2_allow_34) ?_
            refine mx_getR (ci := 2) (k := 4) (r := (o + 3)) dX2_allow_35 k_89 (by decide) rfl (by assumption) (by assumption) (by omega) ?_
            refine mx_iload_n (i := 3) (hi := rfl) (hl := rfl) (hd := dX2_allow_38) ?_
            refine mx_dup2 (hva := rfl) (hvb := rfl) (hd := dX2_allow_39) ?_
            refine mx_ialdV i (nI (pB A i)) dX2_allow_40 (by assumption) ⟨rfl, by omega, by omega⟩ ((a2 i (by omega)).trans (congrArg nI (alf_s _ _ _ _))) ?_
            refine mx_iload_n (i := 1) (hi := rfl) (hl := rfl) (hd := dX2_allow_41) ?_
            refine mx_iorN dX2_allow_42 ?_
            refine mx_iast i dX2_allow_43 (by assumption) ⟨rfl, by omega, by omega⟩ ?_
            refine mx_iincE (i := 3) (ls' := [some (.ref o), some (.int (nI las)), some (.int (nI fir)), some (.int (nI (i + 1)))]) 1 dX2_allow_44 rfl (by decide) (by decide) rfl rfl ?_
            refine mx_goto (tgt := 2) dX2_allow_47 (by decide) ?_
            exact ih (i + 1) _ (by omega) (by omega) ((a1.o (by omega)).c (fun j _ => alf_nt _ c13 j)) ((a2.u).c (fun j _ => alf_st _ c31 j)) (by intro a j h1 h2; rw [mx_u_at, if_neg (by omega)]; exact hoth a j h1 h2) (hfr.u (by omega))
        · skip
          refine mx_aload_n (i := 0) (hi := rfl) (hl := rfl) (hd := dX2_allow_16) ?_
          refine mx_getR (ci := 2) (k := 3) (r := (o + 2)) dX2_allow_17 k_88 (by decide) rfl (by assumption) (by assumption) (by omega) ?_
          refine mx_iload_n (i := 3) (hi := rfl) (hl := rfl) (hd := dX2_allow_20) ?_
          refine mx_dup2 (hva := rfl) (hvb := rfl) (hd := dX2_allow_21) ?_
          refine mx_ialdV i (nI (pA A i)) dX2_allow_22 (by assumption) ⟨rfl, by omega, by omega⟩ ((a1 i (by omega)).trans (congrArg nI (alf_s _ _ _ _))) ?_
          refine mx_iload_n (i := 2) (hi := rfl) (hl := rfl) (hd := dX2_allow_23) ?_
          refine mx_iorN dX2_allow_24 ?_
          refine mx_iast i dX2_allow_25 (by assumption) ⟨rfl, by omega, by omega⟩ ?_
          refine mx_iload_n (i := 2) (hi := rfl) (hl := rfl) (hd := dX2_allow_26) ?_
          refine mx_iload_n (i := 3) (hi := rfl) (hl := rfl) (hd := dX2_allow_27) ?_
          refine mx_ishrN dX2_allow_28 (by omega) (by omega) ?_
          refine mx_iconstN 1 dX2_allow_29 (by decide) ?_
          refine mx_iandN dX2_allow_30 ?_
          refine mx_top (mx_bit _ _) ?_
          refine mx_ifB_eq 44 dX2_allow_31 (by decide) (fun c31 => ?_) (fun c31 => ?_)
          · skip
            refine mx_iincE (i := 3) (ls' := [some (.ref o), some (.int (nI las)), some (.int (nI fir)), some (.int (nI (i + 1)))]) 1 dX2_allow_44 rfl (by decide) (by decide) rfl rfl ?_
            refine mx_goto (tgt := 2) dX2_allow_47 (by decide) ?_
            exact ih (i + 1) _ (by omega) (by omega) ((a1.u).c (fun j _ => alf_st _ c13 j)) ((a2.o (by omega)).c (fun j _ => alf_nt _ c31 j)) (by intro a j h1 h2; rw [mx_u_at, if_neg (by omega)]; exact hoth a j h1 h2) (hfr.u (by omega))
          · skip
            refine mx_aload_n (i := 0) (hi := rfl) (hl := rfl) (hd := dX2_allow_34) ?_
            refine mx_getR (ci := 2) (k := 4) (r := (o + 3)) dX2_allow_35 k_89 (by decide) rfl (by assumption) (by assumption) (by omega) ?_
            refine mx_iload_n (i := 3) (hi := rfl) (hl := rfl) (hd := dX2_allow_38) ?_
            refine mx_dup2 (hva := rfl) (hvb := rfl) (hd := dX2_allow_39) ?_
            refine mx_ialdV i (nI (pB A i)) dX2_allow_40 (by assumption) ⟨rfl, by omega, by omega⟩ (by rw [mx_u_at, if_neg (by omega)]; exact ((a2 i (by omega)).trans (congrArg nI (alf_s _ _ _ _)))) ?_
            refine mx_iload_n (i := 1) (hi := rfl) (hl := rfl) (hd := dX2_allow_41) ?_
            refine mx_iorN dX2_allow_42 ?_
            refine mx_iast i dX2_allow_43 (by assumption) ⟨rfl, by omega, by omega⟩ ?_
            refine mx_iincE (i := 3) (ls' := [some (.ref o), some (.int (nI las)), some (.int (nI fir)), some (.int (nI (i + 1)))]) 1 dX2_allow_44 rfl (by decide) (by decide) rfl rfl ?_
            refine mx_goto (tgt := 2) dX2_allow_47 (by decide) ?_
            exact ih (i + 1) _ (by omega) (by omega) (((a1.u).o (by omega)).c (fun j _ => alf_st _ c13 j)) (((a2.o (by omega)).u).c (fun j _ => alf_st _ c31 j)) (by intro a j h1 h2; rw [mx_u_at, if_neg (by omega), mx_u_at, if_neg (by omega)]; exact hoth a j h1 h2) ((hfr.u (by omega)).u (by omega))
  refine mx_iconstN 0 dX2_allow_0 (by decide) ?_
  refine mx_istoreE_n (i := 3) (ls' := [some (.ref o), some (.int (nI las)), some (.int (nI fir)), some (.int (nI 0))]) (hi := rfl) (hd := dX2_allow_1) (hn := by decide) (hok := rfl) (hls := rfl) ?_
  exact L2 _ 0 I (Nat.lt_succ_self _) (by decide) (hA.c (fun j _ => by unfold alf; rw [if_neg (by omega)])) (hB.c (fun j _ => by unfold alf; rw [if_neg (by omega)])) (fun _ _ _ _ => rfl) (mx_fr.rf _ _ _)
