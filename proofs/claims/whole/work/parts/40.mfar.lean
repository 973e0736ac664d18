/-! THE REFERENCE: how far it is -/
/-- a pattern that is one -/
def pOK (x : Vl) : Prop := x.2.1 ≤ 40 ∧ pErr x.2.2 x.2.1 = none ∧ ∀ i, i < x.2.1 → x.2.2 i < 256
/-- a graph with its pattern as a row of numbers -/
def vpF (f : Nat → Int32) (x : Vl) : Prop := gaF f x.1 ∧ f 2 = nI x.2.1 ∧ (∀ i, i < x.2.1 → f (103 + i) = nI (x.2.2 i)) ∧ pOK x
theorem vpF.c {f f' : Nat → Int32} {x : Vl} (h : vpF f x) (e : ∀ k, k < 143 → f' k = f k) : vpF f' x := by
  obtain ⟨h1, h2, h3, h4⟩ := h
  exact ⟨h1.c h1.1.2.1 (fun k hk => e k (by omega)), by rw [e 2 (by decide)]; exact h2, fun i hi => by rw [e _ (by have := h4.1; omega)]; exact h3 i hi, h4⟩
/-- the scratch alone has changed -/
def mS (I I1 : mx_I) (m : Nat) : Prop := (∀ b, (b < m ∨ (m < b ∧ b < m + 8) ∨ m + 23 ≤ b) → I1 b = I b) ∧ ∀ j, (j < 11 ∨ (15 ≤ j ∧ j < 27)) → I1 m j = I m j
theorem mS.rf (I : mx_I) (m : Nat) : mS I I m := ⟨fun _ _ => rfl, fun _ _ => rfl⟩
theorem mS.tr {I I1 I2 : mx_I} {m : Nat} (h : mS I I1 m) (k : mS I1 I2 m) : mS I I2 m := ⟨fun b q => (k.1 b q).trans (h.1 b q), fun j q => (k.2 j q).trans (h.2 j q)⟩
theorem cmF.S {I I1 : mx_I} {m : Nat} (h : cmF I I1 m) : mS I I1 m := ⟨fun b q => h.1 b (by omega), fun j q => h.2 j (by omega)⟩
theorem mS.of {I I1 : mx_I} {m : Nat} (e : ∀ b k, ¬ (m + 8 ≤ b ∧ b ≤ m + 22) → I1 b k = I b k) : mS I I1 m := ⟨fun b q => funext (fun k => e b k (by omega)), fun j _ => e m j (by omega)⟩
theorem auN.k {I I1 : mx_I} {m : Nat} {A : Pa} (h : auN I m A) (e0 : ∀ j, 11 ≤ j → j < 15 → I1 m j = I m j) (e1 : ∀ b k, m + 8 ≤ b → b < m + 16 → I1 b k = I b k) : auN I1 m A := by
  obtain ⟨h1, ⟨la, em, h2, h3, h4⟩, h5, sg, h6, h7⟩ := h
  exact ⟨(e0 _ (by decide) (by decide)).trans h1, ⟨la, em, (e0 _ (by decide) (by decide)).trans h2, (e0 _ (by decide) (by decide)).trans h3, h4⟩, fun s hs => (e1 _ _ (by omega) (by omega)).trans (h5 s hs), sg, h6, fun s a b => (e1 _ _ (by omega) (by omega)).trans (h7 s a b)⟩

set_option maxHeartbeats 4000000 in
set_option maxRecDepth 100000 in
theorem mt_compileOf (G : mx_G) (I : mx_I) (m : Nat) (hs : oMD G m) (g : Nat) (x : Vl) (hg34 : g = m + 3 ∨ g = m + 4) (htg : mx_tg G g = 1) (hlg : mx_ln G g = 143) (hv : vpF (I g) x) : mx_CTi yX10_compileOf mX10_compileOf 4 [.ref m, .ref g] G I (fun rv I1 => rv = none ∧ auN I1 m (vA x) ∧ cmF I I1 m) := by
  refine mx_start (k := 0) (by decide) rfl rfl (fun h => nomatch h) (Nat.le_of_ble_eq_true rfl) ?_
  show mx_V mX10_compileOf mx_S0 4 0 0 0 [some (.ref m), some (.ref g)] [] G I (fun rv Gz Iz => (fun rv I1 => rv = none ∧ auN I1 m (vA x) ∧ cmF I I1 m) rv Iz ∧ Gz = G) (fun _ _ _ => False)
  have hs0 := hs
  have tgm := hs.1
  obtain ⟨hga, hlen, hch, hok⟩ := hv
  have hn40 := hok.1
  refine mx_aload_n (i := 0) (hi := rfl) (hl := rfl) (hd := dX10_compileOf_0) ?_
  refine mx_aload_n (i := 1) (hi := rfl) (hl := rfl) (hd := dX10_compileOf_1) ?_
  refine mx_bipushN 103 dX10_compileOf_2 (by decide) ?_
  refine mx_aload_n (i := 1) (hi := rfl) (hl := rfl) (hd := dX10_compileOf_4) ?_
  refine mx_iconstN 2 dX10_compileOf_5 (by decide) ?_
  refine mx_ialdV 2 (nI x.2.1) dX10_compileOf_6 (by assumption) ⟨rfl, by omega, by omega⟩ hlen ?_
  refine mx_callVi (ci := 10) (As := [.ref g, .int (nI 103), .int (nI x.2.1)]) (rest := []) dX10_compileOf_7 (mt_compile G I m hs0 g 103 x.2.1 x.2.2 (by omega) htg (by omega) (by omega) hch hok.2.2) km_X10_compile rfl k_1134 k_1136 k_30 (by assumption) rfl rfl (Nat.le_of_ble_eq_true rfl) (by decide) (fun r1 I2 h2 => ?_)
  obtain ⟨e9, q1, q2⟩ := h2
  subst e9
  refine mx_pop (hva := rfl) (hd := dX10_compileOf_10) ?_
  exact mx_vret dX10_compileOf_11 rfl (⟨⟨rfl, q1 hok.2.1, q2⟩, rfl⟩)

theorem isE_iff {se la : Nat} {em : Bool} : ¬ se &&& (la ||| (if em = true then 1 else 0)) = 0 ↔ (¬ se &&& la = 0) ∨ (em = true ∧ se &&& 1 = 1) := by
  rw [and_ne, and_ne]
  constructor
  · rintro ⟨t, h1, h2⟩
    rw [Nat.testBit_or, Bool.or_eq_true] at h2
    rcases h2 with h2 | h2
    · exact Or.inl ⟨t, h1, h2⟩
    · by_cases c : em = true
      · rw [if_pos c] at h2
        have h3 : t < 1 := bit_lt (show 1 < 2 ^ 1 by decide) h2
        have h4 : t = 0 := by omega
        subst h4
        refine Or.inr ⟨c, ?_⟩
        rw [Nat.and_one_is_mod]
        rw [Nat.testBit_zero, decide_eq_true_eq] at h1
        exact h1
      · rw [if_neg c, Nat.zero_testBit] at h2; cases h2
  · rintro (⟨t, h1, h2⟩ | ⟨h1, h2⟩)
    · exact ⟨t, h1, by rw [Nat.testBit_or, h2]; rfl⟩
    · rw [Nat.and_one_is_mod] at h2
      exact ⟨0, by rw [Nat.testBit_zero, decide_eq_true_eq]; exact h2, by rw [Nat.testBit_or, if_pos h1, Bool.or_eq_true]; exact Or.inr (by decide)⟩

set_option maxHeartbeats 4000000 in
set_option maxRecDepth 100000 in
theorem mt_isEnd (G : mx_G) (I : mx_I) (m : Nat) (hs : oMD G m) (A : Pa) (ha : auN I m A) (hA : auP A) (se : Nat) (hse : se < 2 ^ 31) : mx_CTp yX10_isEnd mX10_isEnd 1 [.ref m, .int (nI se)] G I (some (.int (mx_b (decide (¬ se &&& pAc A = 0))))) := by
  refine mx_start (k := 0) (by decide) rfl rfl (fun h => nomatch h) (Nat.le_of_ble_eq_true rfl) ?_
  show mx_V mX10_isEnd mx_S0 1 0 0 0 [some (.ref m), some (.int (nI se))] [] G I (fun rv Gz Iz => rv = some (.int (mx_b (decide (¬ se &&& pAc A = 0)))) ∧ Gz = G ∧ Iz = I) (fun _ _ _ => False)
  have tgm := hs.1
  obtain ⟨h11, ⟨la, em, h14, h12, hla21, hla0, hac⟩, h8, sg, hsg, h9⟩ := ha
  have hL := hA.1
  refine mx_iload_n (i := 1) (hi := rfl) (hl := rfl) (hd := dX10_isEnd_0) ?_
  refine mx_aload_n (i := 0) (hi := rfl) (hl := rfl) (hd := dX10_isEnd_1) ?_
  refine mx_getV (ci := 10) (k := 14) (nI la) dX10_isEnd_2 k_1027 (by decide) rfl (by assumption) h14 ?_
  refine mx_iandN dX10_isEnd_5 ?_
  refine mx_ifN_ne 23 dX10_isEnd_6 (by decide) (Nat.lt_of_le_of_lt Nat.and_le_left hse) (fun c6 => ?_) (fun c6 => ?_)
  · skip
    refine mx_iconstN 1 dX10_isEnd_23 (by decide) ?_
    refine mx_goto (tgt := 28) dX10_isEnd_24 (by decide) ?_
    exact mx_iret dX10_isEnd_28 rfl (by decide) (⟨congrArg (fun z => some (Value.int z)) (mx_bT (by rw [hac]; exact isE_iff.mpr (by first | exact Or.inl c6 | exact Or.inr ⟨c13, c20⟩))), rfl, rfl⟩)
  · skip
    refine mx_aload_n (i := 0) (hi := rfl) (hl := rfl) (hd := dX10_isEnd_9) ?_
    refine mx_getV (ci := 10) (k := 12) (mx_b (decide (em = true)) : Int32) dX10_isEnd_10 k_1025 (by decide) rfl (by assumption) (by rw [mx_dec]; exact h12) ?_
    refine mx_ifB_eq 27 dX10_isEnd_13 (by decide) (fun c13 => ?_) (fun c13 => ?_)
    · skip
      refine mx_iconstN 0 dX10_isEnd_27 (by decide) ?_
      exact mx_iret dX10_isEnd_28 rfl (by decide) (⟨congrArg (fun z => some (Value.int z)) (mx_bF (by rw [hac]; exact fun z9 => (isE_iff.mp z9).elim (fun q => q c6) (fun q => by first | exact c13 q.1 | exact c20 q.2))), rfl, rfl⟩)
    · skip
      refine mx_iload_n (i := 1) (hi := rfl) (hl := rfl) (hd := dX10_isEnd_16) ?_
      refine mx_iconstN 1 dX10_isEnd_17 (by decide) ?_
      refine mx_iandN dX10_isEnd_18 ?_
      refine mx_iconstN 1 dX10_isEnd_19 (by decide) ?_
      refine mx_cmpN_ne 27 dX10_isEnd_20 (by decide) (Nat.lt_of_le_of_lt Nat.and_le_left hse) (by decide) (fun c20 => ?_) (fun c20 => ?_)
      · skip
        refine mx_iconstN 0 dX10_isEnd_27 (by decide) ?_
        exact mx_iret dX10_isEnd_28 rfl (by decide) (⟨congrArg (fun z => some (Value.int z)) (mx_bF (by rw [hac]; exact fun z9 => (isE_iff.mp z9).elim (fun q => q c6) (fun q => by first | exact c13 q.1 | exact c20 q.2))), rfl, rfl⟩)
      · skip
        refine mx_iconstN 1 dX10_isEnd_23 (by decide) ?_
        refine mx_goto (tgt := 28) dX10_isEnd_24 (by decide) ?_
        exact mx_iret dX10_isEnd_28 rfl (by decide) (⟨congrArg (fun z => some (Value.int z)) (mx_bT (by rw [hac]; exact isE_iff.mpr (by first | exact Or.inl c6 | exact Or.inr ⟨c13, c20⟩))), rfl, rfl⟩)

def mskB (x : Nat) : Nat → Nat
  | 0 => 0
  | s + 1 => mskB x s ||| (if x.testBit s = true then 2 ^ s else 0)
theorem mskB_bit (x t : Nat) : ∀ n, (mskB x n).testBit t = true ↔ t < n ∧ x.testBit t = true
  | 0 => by
    unfold mskB
    rw [Nat.zero_testBit]
    exact ⟨fun q => (nomatch q), fun q => absurd q.1 (Nat.not_lt_zero _)⟩
  | n + 1 => by
    unfold mskB
    rw [Nat.testBit_or, Bool.or_eq_true, mskB_bit x t n]
    constructor
    · rintro (h | h)
      · exact ⟨by omega, h.2⟩
      · by_cases c : x.testBit n = true
        · rw [if_pos c, Nat.testBit_two_pow, decide_eq_true_eq] at h
          subst h; exact ⟨Nat.lt_succ_self _, c⟩
        · rw [if_neg c, Nat.zero_testBit] at h; cases h
    · rintro ⟨h1, h2⟩
      by_cases e : t = n
      · subst e; rw [if_pos h2]; exact Or.inr (by rw [Nat.testBit_two_pow, decide_eq_true_eq])
      · exact Or.inl ⟨by omega, h2⟩
theorem mskB_all {L x : Nat} (h : inB L x) : mskB x (L + 1) = x := by
  refine Nat.eq_of_testBit_eq (fun t => ?_)
  have h1 := mskB_bit x t (L + 1)
  cases e : x.testBit t with
  | true => exact h1.mpr ⟨by have := h t e; omega, e⟩
  | false =>
    cases e2 : (mskB x (L + 1)).testBit t with
    | false => rfl
    | true => rw [(h1.mp e2).2] at e; cases e
theorem mskB_1 {L x : Nat} (h : inB L x) : mskB x 1 = 0 := by
  show 0 ||| (if x.testBit 0 = true then 2 ^ 0 else 0) = 0
  rw [h.n (Or.inl rfl), if_neg (by decide)]
  rfl
theorem enB {A : Pa} (hA : auP A) (d k : Nat) : inB (pL A) (pEn A d k) := hA.2.2.2.2.1 _
theorem fit_iff {A : Pa} {sg : Nat → Nat} {s k : Nat} {b : Bool} (h : sgR A sg) (h1 : 1 ≤ s) (h2 : s ≤ pL A) (hk : k < 4) : (pEn A (if b = true then 1 else 0) k).testBit s = true ↔ (if b = true then sg s = 4 + k else (sg s = k ∨ sg s = 8)) := by
  obtain ⟨q1, q2⟩ := h s h1 h2
  cases b with
  | true =>
    show (pE A (1 * 4 + k)).testBit s = true ↔ sg s = 4 + k
    rw [show 1 * 4 + k = 4 + k by omega]
    exact (q2 k hk).2
  | false =>
    show (pE A (0 * 4 + k)).testBit s = true ↔ (sg s = k ∨ sg s = 8)
    rw [show 0 * 4 + k = k by omega]
    exact (q2 k hk).1

set_option maxHeartbeats 4000000 in
set_option maxRecDepth 100000 in
theorem mt_fits (G : mx_G) (I : mx_I) (m : Nat) (hs : oMD G m) (A : Pa) (ha : auN I m A) (hA : auP A) (k : Nat) (b : Bool) (hk : k < 4) : mx_CTp yX10_fits mX10_fits 1 [.ref m, .int (nI k), .int (mx_b (decide (b = true)))] G I (some (.int (nI (pEn A (if b = true then 1 else 0) k)))) := by
  refine mx_start (k := 3) (by decide) rfl rfl (fun h => nomatch h) (Nat.le_of_ble_eq_true rfl) ?_
  show mx_V mX10_fits mx_S0 1 0 0 0 [some (.ref m), some (.int (nI k)), some (.int (mx_b (decide (b = true)))), none, none, none] [] G I (fun rv Gz Iz => rv = some (.int (nI (pEn A (if b = true then 1 else 0) k))) ∧ Gz = G ∧ Iz = I) (fun _ _ _ => False)
  obtain ⟨h11, ⟨la, em, h14, h12, hla21, hla0, hac⟩, h8, sg, hsg, h9⟩ := ha
  have hL := hA.1
  obtain ⟨tgm, -, -, -, -, -, -, -, -, ⟨r_sign, t_sign, l_sign⟩, -⟩ := hs
  have L5 : ∀ (fq : Nat) (s n : Nat), pL A + 1 - s < fq → (1 ≤ s) → (s ≤ pL A + 1) → (n = mskB (pEn A (if b = true then 1 else 0) k) s) → mx_V mX10_fits mx_S0 1 0 0 5 [some (.ref m), some (.int (nI k)), some (.int (mx_b (decide (b = true)))), some (.int (nI n)), some (.int (nI s)), none] [] G I (fun rv Gz Iz => rv = some (.int (nI (pEn A (if b = true then 1 else 0) k))) ∧ Gz = G ∧ Iz = I) (fun _ _ _ => False) := by
    intro fq
    induction fq with
    | zero => intro s n hfu; exact absurd hfu (Nat.not_lt_zero _)
    | succ fq ih =>
      intro s n hfu hs1 hs2 hx
      have J67 : ∀ (_ : Unit), (1 ≤ s) → (s ≤ pL A) → mx_V mX10_fits mx_S0 1 0 0 67 [some (.ref m), some (.int (nI k)), some (.int (mx_b (decide (b = true)))), some (.int (nI n)), some (.int (nI s)), none] [.int (mx_b (decide ((pEn A (if b = true then 1 else 0) k).testBit s = true)))] G I (fun rv Gz Iz => rv = some (.int (nI (pEn A (if b = true then 1 else 0) k))) ∧ Gz = G ∧ Iz = I) (fun _ _ _ => False) := by
        intro _ hs1b hs2b
        refine mx_istoreE (i := 5) (ls' := [some (.ref m), some (.int (nI k)), some (.int (mx_b (decide (b = true)))), some (.int (nI n)), some (.int (nI s)), some (.int (mx_b (decide ((pEn A (if b = true then 1 else 0) k).testBit s = true))))]) (hd := dX10_fits_67) (hn := by decide) (hok := rfl) (hls := rfl) ?_
        refine mx_iload_n (i := 3) (hi := rfl) (hl := rfl) (hd := dX10_fits_69) ?_
        refine mx_iload (i := 5) (hl := rfl) (hd := dX10_fits_70) ?_
        refine mx_ifB_eq 82 dX10_fits_72 (by decide) (fun c72 => ?_) (fun c72 => ?_)
        · skip
          refine mx_iconstN 0 dX10_fits_82 (by decide) ?_
          refine mx_iorN dX10_fits_83 ?_
          refine mx_istoreE_n (i := 3) (ls' := [some (.ref m), some (.int (nI k)), some (.int (mx_b (decide (b = true)))), some (.int (nI (n ||| 0))), some (.int (nI s)), some (.int (mx_b (decide ((pEn A (if b = true then 1 else 0) k).testBit s = true))))]) (hi := rfl) (hd := dX10_fits_84) (hn := by decide) (hok := rfl) (hls := rfl) ?_
          refine mx_iincE (i := 4) (ls' := [some (.ref m), some (.int (nI k)), some (.int (mx_b (decide (b = true)))), some (.int (nI (n ||| 0))), some (.int (nI (s + 1))), some (.int (mx_b (decide ((pEn A (if b = true then 1 else 0) k).testBit s = true))))]) 1 dX10_fits_85 rfl (by decide) (by decide) rfl rfl ?_
          refine mx_goto (tgt := 5) dX10_fits_88 (by decide) ?_
          refine mx_leS (ls' := [some (.ref m), some (.int (nI k)), some (.int (mx_b (decide (b = true)))), some (.int (nI (n ||| 0))), some (.int (nI (s + 1))), none]) ⟨rfl, rfl, rfl, rfl, rfl, trivial⟩ ?_
          exact ih (s + 1) _ (by omega) (by omega) (by omega) (by rw [hx, mskB, if_neg c72])
        · skip
          refine mx_iconstN 1 dX10_fits_75 (by decide) ?_
          refine mx_iload (i := 4) (hl := rfl) (hd := dX10_fits_76) ?_
          refine mx_ishl1N dX10_fits_78 (by omega) ?_
          refine mx_goto (tgt := 83) dX10_fits_79 (by decide) ?_
          refine mx_iorN dX10_fits_83 ?_
          refine mx_istoreE_n (i := 3) (ls' := [some (.ref m), some (.int (nI k)), some (.int (mx_b (decide (b = true)))), some (.int (nI (n ||| (2 ^ s)))), some (.int (nI s)), some (.int (mx_b (decide ((pEn A (if b = true then 1 else 0) k).testBit s = true))))]) (hi := rfl) (hd := dX10_fits_84) (hn := by decide) (hok := rfl) (hls := rfl) ?_
          refine mx_iincE (i := 4) (ls' := [some (.ref m), some (.int (nI k)), some (.int (mx_b (decide (b = true)))), some (.int (nI (n ||| (2 ^ s)))), some (.int (nI (s + 1))), some (.int (mx_b (decide ((pEn A (if b = true then 1 else 0) k).testBit s = true))))]) 1 dX10_fits_85 rfl (by decide) (by decide) rfl rfl ?_
          refine mx_goto (tgt := 5) dX10_fits_88 (by decide) ?_
          refine mx_leS (ls' := [some (.ref m), some (.int (nI k)), some (.int (mx_b (decide (b = true)))), some (.int (nI (n ||| (2 ^ s)))), some (.int (nI (s + 1))), none]) ⟨rfl, rfl, rfl, rfl, rfl, trivial⟩ ?_
          exact ih (s + 1) _ (by omega) (by omega) (by omega) (by rw [hx, mskB, if_pos c72])
      refine mx_iload (i := 4) (hl := rfl) (hd := dX10_fits_5) ?_
      refine mx_aload_n (i := 0) (hi := rfl) (hl := rfl) (hd := dX10_fits_7) ?_
      refine mx_getV (ci := 10) (k := 11) (nI (pL A)) dX10_fits_8 k_1024 (by decide) rfl (by assumption) h11 ?_
      refine mx_cmpN_gt 91 dX10_fits_11 (by decide) (by omega) (by omega) (fun c11 => ?_) (fun c11 => ?_)
      · skip
        refine mx_iload_n (i := 3) (hi := rfl) (hl := rfl) (hd := dX10_fits_91) ?_
        exact mx_iret dX10_fits_92 rfl rfl (⟨by rw [hx, show s = pL A + 1 by omega, mskB_all (enB hA _ _)], rfl, rfl⟩)
      · skip
        refine mx_iload_n (i := 2) (hi := rfl) (hl := rfl) (hd := dX10_fits_14) ?_
        refine mx_ifB_eq 39 dX10_fits_15 (by decide) (fun c15 => ?_) (fun c15 => ?_)
        · skip
          refine mx_aload_n (i := 0) (hi := rfl) (hl := rfl) (hd := dX10_fits_39) ?_
          refine mx_getR (ci := 10) (k := 16) (r := (m + 9)) dX10_fits_40 k_1029 (by decide) rfl (by assumption) (by assumption) (by omega) ?_
          refine mx_iload (i := 4) (hl := rfl) (hd := dX10_fits_43) ?_
          refine mx_ialdV s (nI (sg s)) dX10_fits_45 (by assumption) ⟨rfl, by omega, by omega⟩ (h9 s (by omega) (by omega)) ?_
          refine mx_iload_n (i := 1) (hi := rfl) (hl := rfl) (hd := dX10_fits_46) ?_
          refine mx_cmpN_eq 62 dX10_fits_47 (by decide) (by have := (hsg s (by omega) (by omega)).1; omega) (by omega) (fun c47 => ?_) (fun c47 => ?_)
          · skip
            refine mx_iconstN 1 dX10_fits_62 (by decide) ?_
            refine mx_goto (tgt := 67) dX10_fits_63 (by decide) ?_
            refine mx_top (y := mx_b (decide ((pEn A (if b = true then 1 else 0) k).testBit s = true))) (mx_bT ((fit_iff hsg (by omega) (by omega) hk).mpr (by first | (rw [if_pos c15]; exact c28) | (rw [if_neg c15]; omega)))) ?_
            exact J67 () (by omega) (by omega)
          · skip
            refine mx_aload_n (i := 0) (hi := rfl) (hl := rfl) (hd := dX10_fits_50) ?_
            refine mx_getR (ci := 10) (k := 16) (r := (m + 9)) dX10_fits_51 k_1029 (by decide) rfl (by assumption) (by assumption) (by omega) ?_
            refine mx_iload (i := 4) (hl := rfl) (hd := dX10_fits_54) ?_
            refine mx_ialdV s (nI (sg s)) dX10_fits_56 (by assumption) ⟨rfl, by omega, by omega⟩ (h9 s (by omega) (by omega)) ?_
            refine mx_bipushN 8 dX10_fits_57 (by decide) ?_
            refine mx_cmpN_ne 66 dX10_fits_59 (by decide) (by have := (hsg s (by omega) (by omega)).1; omega) (by omega) (fun c59 => ?_) (fun c59 => ?_)
            · skip
              refine mx_iconstN 0 dX10_fits_66 (by decide) ?_
              refine mx_top (y := mx_b (decide ((pEn A (if b = true then 1 else 0) k).testBit s = true))) (mx_bF (fun q => by have q := (fit_iff hsg (by omega) (by omega) hk).mp q; first | (rw [if_pos c15] at q; exact c28 q) | (rw [if_neg c15] at q; omega))) ?_
              exact J67 () (by omega) (by omega)
            · skip
              refine mx_iconstN 1 dX10_fits_62 (by decide) ?_
              refine mx_goto (tgt := 67) dX10_fits_63 (by decide) ?_
              refine mx_top (y := mx_b (decide ((pEn A (if b = true then 1 else 0) k).testBit s = true))) (mx_bT ((fit_iff hsg (by omega) (by omega) hk).mpr (by first | (rw [if_pos c15]; exact c28) | (rw [if_neg c15]; omega)))) ?_
              exact J67 () (by omega) (by omega)
        · skip
          refine mx_aload_n (i := 0) (hi := rfl) (hl := rfl) (hd := dX10_fits_18) ?_
          refine mx_getR (ci := 10) (k := 16) (r := (m + 9)) dX10_fits_19 k_1029 (by decide) rfl (by assumption) (by assumption) (by omega) ?_
          refine mx_iload (i := 4) (hl := rfl) (hd := dX10_fits_22) ?_
          refine mx_ialdV s (nI (sg s)) dX10_fits_24 (by assumption) ⟨rfl, by omega, by omega⟩ (h9 s (by omega) (by omega)) ?_
          refine mx_iconstN 4 dX10_fits_25 (by decide) ?_
          refine mx_iload_n (i := 1) (hi := rfl) (hl := rfl) (hd := dX10_fits_26) ?_
          refine mx_iaddN dX10_fits_27 ?_
          refine mx_cmpN_ne 35 dX10_fits_28 (by decide) (by have := (hsg s (by omega) (by omega)).1; omega) (by omega) (fun c28 => ?_) (fun c28 => ?_)
          · skip
            refine mx_iconstN 0 dX10_fits_35 (by decide) ?_
            refine mx_goto (tgt := 67) dX10_fits_36 (by decide) ?_
            refine mx_top (y := mx_b (decide ((pEn A (if b = true then 1 else 0) k).testBit s = true))) (mx_bF (fun q => by have q := (fit_iff hsg (by omega) (by omega) hk).mp q; first | (rw [if_pos c15] at q; exact c28 q) | (rw [if_neg c15] at q; omega))) ?_
            exact J67 () (by omega) (by omega)
          · skip
            refine mx_iconstN 1 dX10_fits_31 (by decide) ?_
            refine mx_goto (tgt := 67) dX10_fits_32 (by decide) ?_
            refine mx_top (y := mx_b (decide ((pEn A (if b = true then 1 else 0) k).testBit s = true))) (mx_bT ((fit_iff hsg (by omega) (by omega) hk).mpr (by first | (rw [if_pos c15]; exact c28) | (rw [if_neg c15]; omega)))) ?_
            exact J67 () (by omega) (by omega)
  refine mx_iconstN 0 dX10_fits_0 (by decide) ?_
  refine mx_istoreE_n (i := 3) (ls' := [some (.ref m), some (.int (nI k)), some (.int (mx_b (decide (b = true)))), some (.int (nI 0)), none, none]) (hi := rfl) (hd := dX10_fits_1) (hn := by decide) (hok := rfl) (hls := rfl) ?_
  refine mx_iconstN 1 dX10_fits_2 (by decide) ?_
  refine mx_istoreE (i := 4) (ls' := [some (.ref m), some (.int (nI k)), some (.int (mx_b (decide (b = true)))), some (.int (nI 0)), some (.int (nI 1)), none]) (hd := dX10_fits_3) (hn := by decide) (hok := rfl) (hls := rfl) ?_
  exact L5 _ 1 0 (Nat.lt_succ_self _) (Nat.le_refl _) (by omega) (mskB_1 (enB hA _ _)).symm

set_option maxHeartbeats 4000000 in
set_option maxRecDepth 100000 in
theorem mt_behind (G : mx_G) (I : mx_I) (m : Nat) (hs : oMD G m) (A : Pa) (ha : auN I m A) (hA : auP A) (se by9 : Nat) (hse : se < 2 ^ 31) : mx_CTp yX10_behind mX10_behind 1 [.ref m, .int (nI se), .int (nI by9)] G I (some (.int (nI (pFol A se &&& by9)))) := by
  refine mx_start (k := 2) (by decide) rfl rfl (fun h => nomatch h) (Nat.le_of_ble_eq_true rfl) ?_
  show mx_V mX10_behind mx_S0 1 0 0 0 [some (.ref m), some (.int (nI se)), some (.int (nI by9)), none, none] [] G I (fun rv Gz Iz => rv = some (.int (nI (pFol A se &&& by9))) ∧ Gz = G ∧ Iz = I) (fun _ _ _ => False)
  obtain ⟨h11, ⟨la, em, h14, h12, hla21, hla0, hac⟩, h8, sg, hsg, h9⟩ := ha
  have hL := hA.1
  obtain ⟨tgm, -, -, -, -, -, -, -, ⟨r_next, t_next, l_next⟩, -⟩ := hs
  have L5 : ∀ (fq : Nat) (s n : Nat), pL A + 1 - s < fq → (s ≤ pL A + 1) → (n = orF (pA A) se s) → mx_V mX10_behind mx_S0 1 0 0 5 [some (.ref m), some (.int (nI se)), some (.int (nI by9)), some (.int (nI n)), some (.int (nI s))] [] G I (fun rv Gz Iz => rv = some (.int (nI (pFol A se &&& by9))) ∧ Gz = G ∧ Iz = I) (fun _ _ _ => False) := by
    intro fq
    induction fq with
    | zero => intro s n hfu; exact absurd hfu (Nat.not_lt_zero _)
    | succ fq ih =>
      intro s n hfu hs2 hx
      have J36 : ∀ (_ : Unit), (s ≤ pL A) → mx_V mX10_behind mx_S0 1 0 0 36 [some (.ref m), some (.int (nI se)), some (.int (nI by9)), some (.int (nI n)), some (.int (nI s))] [.int (nI (if se.testBit s = true then pA A s else 0)), .int (nI n)] G I (fun rv Gz Iz => rv = some (.int (nI (pFol A se &&& by9))) ∧ Gz = G ∧ Iz = I) (fun _ _ _ => False) := by
        intro _ hsb
        refine mx_iorN dX10_behind_36 ?_
        refine mx_istoreE_n (i := 3) (ls' := [some (.ref m), some (.int (nI se)), some (.int (nI by9)), some (.int (nI (n ||| (if se.testBit s = true then pA A s else 0)))), some (.int (nI s))]) (hi := rfl) (hd := dX10_behind_37) (hn := by decide) (hok := rfl) (hls := rfl) ?_
        refine mx_iincE (i := 4) (ls' := [some (.ref m), some (.int (nI se)), some (.int (nI by9)), some (.int (nI (n ||| (if se.testBit s = true then pA A s else 0)))), some (.int (nI (s + 1)))]) 1 dX10_behind_38 rfl (by decide) (by decide) rfl rfl ?_
        refine mx_goto (tgt := 5) dX10_behind_41 (by decide) ?_
        exact ih (s + 1) _ (by omega) (by omega) (by rw [hx, orF])
      refine mx_iload (i := 4) (hl := rfl) (hd := dX10_behind_5) ?_
      refine mx_aload_n (i := 0) (hi := rfl) (hl := rfl) (hd := dX10_behind_7) ?_
      refine mx_getV (ci := 10) (k := 11) (nI (pL A)) dX10_behind_8 k_1024 (by decide) rfl (by assumption) h11 ?_
      refine mx_cmpN_gt 44 dX10_behind_11 (by decide) (by omega) (by omega) (fun c11 => ?_) (fun c11 => ?_)
      · skip
        refine mx_iload_n (i := 3) (hi := rfl) (hl := rfl) (hd := dX10_behind_44) ?_
        refine mx_iload_n (i := 2) (hi := rfl) (hl := rfl) (hd := dX10_behind_45) ?_
        refine mx_iandN dX10_behind_46 ?_
        exact mx_iret dX10_behind_47 rfl rfl (⟨by rw [hx, show s = pL A + 1 by omega, ← pFol_L hA], rfl, rfl⟩)
      · skip
        refine mx_iload_n (i := 3) (hi := rfl) (hl := rfl) (hd := dX10_behind_14) ?_
        refine mx_iload_n (i := 1) (hi := rfl) (hl := rfl) (hd := dX10_behind_15) ?_
        refine mx_iload (i := 4) (hl := rfl) (hd := dX10_behind_16) ?_
        refine mx_ishrN dX10_behind_18 (by omega) (by omega) ?_
        refine mx_iconstN 1 dX10_behind_19 (by decide) ?_
        refine mx_iandN dX10_behind_20 ?_
        refine mx_top (mx_bit _ _) ?_
        refine mx_iconstN 1 dX10_behind_21 (by decide) ?_
        refine mx_icmp_ne (tgt := 35) dX10_behind_22 (by decide) (fun c22 => ?_) (fun c22 => ?_)
        · skip
          have d22 : ¬ se.testBit s = true := fun q => c22 (mx_bT q).symm
          refine mx_iconstN 0 dX10_behind_35 (by decide) ?_
          refine mx_top (y := nI (if se.testBit s = true then pA A s else 0)) (by rw [if_neg d22]) ?_
          exact J36 () (by omega)
        · skip
          have d22 := mx_b1 c22
          refine mx_aload_n (i := 0) (hi := rfl) (hl := rfl) (hd := dX10_behind_25) ?_
          refine mx_getR (ci := 10) (k := 15) (r := (m + 8)) dX10_behind_26 k_1028 (by decide) rfl (by assumption) (by assumption) (by omega) ?_
          refine mx_iload (i := 4) (hl := rfl) (hd := dX10_behind_29) ?_
          refine mx_ialdV s (nI (pA A s)) dX10_behind_31 (by assumption) ⟨rfl, by omega, by omega⟩ (h8 s (by omega)) ?_
          refine mx_goto (tgt := 36) dX10_behind_32 (by decide) ?_
          refine mx_top (y := nI (if se.testBit s = true then pA A s else 0)) (by rw [if_pos d22]) ?_
          exact J36 () (by omega)
  refine mx_iconstN 0 dX10_behind_0 (by decide) ?_
  refine mx_istoreE_n (i := 3) (ls' := [some (.ref m), some (.int (nI se)), some (.int (nI by9)), some (.int (nI 0)), none]) (hi := rfl) (hd := dX10_behind_1) (hn := by decide) (hok := rfl) (hls := rfl) ?_
  refine mx_iconstN 0 dX10_behind_2 (by decide) ?_
  refine mx_istoreE (i := 4) (ls' := [some (.ref m), some (.int (nI se)), some (.int (nI by9)), some (.int (nI 0)), some (.int (nI 0))]) (hd := dX10_behind_3) (hn := by decide) (hok := rfl) (hls := rfl) ?_
  exact L5 _ 0 0 (Nat.lt_succ_self _) (Nat.zero_le _) rfl

/-- the prices, without a step -/
def prM (v : Gr) (bt : Option Nat) : Nat → Nat := fun s => if bt = some s then 0 else gC v s
theorem oI_some {bt : Option Nat} {s : Nat} (hb : ∀ z, bt = some z → z < 2 ^ 31) (hs : s < 2 ^ 31) : nI s = oI bt ↔ bt = some s := by
  cases bt with
  | none =>
    refine ⟨fun h => ?_, fun h => nomatch h⟩
    have h1 := nI_toInt hs
    rw [h] at h1
    have h2 : (oI none).toInt = -9 := by decide
    omega
  | some z =>
    have h3 := nI_eq hs (hb z rfl)
    refine ⟨fun h => ?_, fun h => ?_⟩
    · rw [h3.mp h]
    · cases h; rfl

set_option maxHeartbeats 4000000 in
set_option maxRecDepth 100000 in
theorem mt_layPrices (G : mx_G) (I : mx_I) (m : Nat) (hs : oMD G m) (g : Nat) (v : Gr) (ht : mx_tg G g = 1) (hl : mx_ln G g = 143) (hg : gaF (I g) v) (hgn : g ≠ m + 16) (bt : Option Nat) (hbt : ∀ z, bt = some z → z < 2 ^ 31) : mx_CTi yX10_layPrices mX10_layPrices 2 [.ref m, .ref g, .int (oI bt)] G I (fun rv I1 => rv = none ∧ (∀ s, s < gN v → I1 (m + 16) s = nI (prM v bt s)) ∧ (∀ b k, b ≠ m + 16 → I1 b k = I b k)) := by
  refine mx_start (k := 1) (by decide) rfl rfl (fun h => nomatch h) (Nat.le_of_ble_eq_true rfl) ?_
  show mx_V mX10_layPrices mx_S0 2 0 0 0 [some (.ref m), some (.ref g), some (.int (oI bt)), none] [] G I (fun rv Gz Iz => (fun rv I1 => rv = none ∧ (∀ s, s < gN v → I1 (m + 16) s = nI (prM v bt s)) ∧ (∀ b k, b ≠ m + 16 → I1 b k = I b k)) rv Iz ∧ Gz = G) (fun _ _ _ => False)
  have hgw := hg.1
  obtain ⟨hgP, hgN, hgb⟩ := hgw
  obtain ⟨tgm, -, -, -, -, -, -, -, -, -, -, -, -, -, -, -, ⟨r_prices, t_prices, l_prices⟩, -⟩ := hs
  have L2 : ∀ (fq : Nat) (s : Nat) (I1 : mx_I), gN v - s < fq → (s ≤ gN v) → (∀ t, t < s → I1 (m + 16) t = nI (prM v bt t)) → (∀ b k, b ≠ m + 16 → I1 b k = I b k) → mx_V mX10_layPrices mx_S0 2 0 0 2 [some (.ref m), some (.ref g), some (.int (oI bt)), some (.int (nI s))] [] G I1 (fun rv Gz Iz => (fun rv I1 => rv = none ∧ (∀ s, s < gN v → I1 (m + 16) s = nI (prM v bt s)) ∧ (∀ b k, b ≠ m + 16 → I1 b k = I b k)) rv Iz ∧ Gz = G) (fun _ _ _ => False) := by
    intro fq
    induction fq with
    | zero => intro s I1 hfu; exact absurd hfu (Nat.not_lt_zero _)
    | succ fq ih =>
      intro s I1 hfu hs2 ea eo
      have J31 : ∀ (_ : Unit), (s < gN v) → mx_V mX10_layPrices mx_S0 2 0 0 31 [some (.ref m), some (.ref g), some (.int (oI bt)), some (.int (nI s))] [.int (nI (prM v bt s)), .int (nI s), .ref (m + 16)] G I1 (fun rv Gz Iz => (fun rv I1 => rv = none ∧ (∀ s, s < gN v → I1 (m + 16) s = nI (prM v bt s)) ∧ (∀ b k, b ≠ m + 16 → I1 b k = I b k)) rv Iz ∧ Gz = G) (fun _ _ _ => False) := by
        intro _ hsb
        refine mx_iast s dX10_layPrices_31 (by assumption) ⟨rfl, by omega, by omega⟩ ?_
        refine mx_iincE (i := 3) (ls' := [some (.ref m), some (.ref g), some (.int (oI bt)), some (.int (nI (s + 1)))]) 1 dX10_layPrices_32 rfl (by decide) (by decide) rfl rfl ?_
        refine mx_goto (tgt := 2) dX10_layPrices_35 (by decide) ?_
        exact ih (s + 1) _ (by omega) (by omega) (fun t ht => by
          by_cases e : t = s
          · rw [e, mx_u_at, if_pos ⟨rfl, rfl⟩]
          · rw [mx_u_at, if_neg (by omega)]; exact ea t (by omega)) (fun b k hb => by rw [mx_u_at, if_neg (fun q => hb q.1)]; exact eo b k hb)
      refine mx_iload_n (i := 3) (hi := rfl) (hl := rfl) (hd := dX10_layPrices_2) ?_
      refine mx_aload_n (i := 1) (hi := rfl) (hl := rfl) (hd := dX10_layPrices_3) ?_
      refine mx_iconstN 1 dX10_layPrices_4 (by decide) ?_
      refine mx_ialdV 1 (nI (gN v)) dX10_layPrices_5 (by assumption) ⟨rfl, by omega, by omega⟩ (by rw [eo _ _ hgn]; exact hg.2.2.1) ?_
      refine mx_cmpN_ge 38 dX10_layPrices_6 (by decide) (by omega) (by omega) (fun c6 => ?_) (fun c6 => ?_)
      · skip
        exact mx_vret dX10_layPrices_38 rfl (⟨⟨rfl, fun s hs => ea s (by omega), eo⟩, rfl⟩)
      · skip
        refine mx_aload_n (i := 0) (hi := rfl) (hl := rfl) (hd := dX10_layPrices_9) ?_
        refine mx_getR (ci := 10) (k := 23) (r := (m + 16)) dX10_layPrices_10 k_1036 (by decide) rfl (by assumption) (by assumption) (by omega) ?_
        refine mx_iload_n (i := 3) (hi := rfl) (hl := rfl) (hd := dX10_layPrices_13) ?_
        refine mx_iload_n (i := 3) (hi := rfl) (hl := rfl) (hd := dX10_layPrices_14) ?_
        refine mx_iload_n (i := 2) (hi := rfl) (hl := rfl) (hd := dX10_layPrices_15) ?_
        refine mx_icmp_ne (tgt := 23) dX10_layPrices_16 (by decide) (fun c16 => ?_) (fun c16 => ?_)
        · skip
          refine mx_aload_n (i := 1) (hi := rfl) (hl := rfl) (hd := dX10_layPrices_23) ?_
          refine mx_iload_n (i := 3) (hi := rfl) (hl := rfl) (hd := dX10_layPrices_24) ?_
          refine mx_callSp (As := [.int (nI s)]) (rest := [.ref g, .int (nI s), .ref (m + 16)]) dX10_layPrices_25 (mt_at G I1 s) km_X10_at rfl k_1180 k_1181 rfl rfl (Nat.le_of_ble_eq_true rfl) (by decide) ?_
          refine mx_iconstN 3 dX10_layPrices_28 (by decide) ?_
          refine mx_iaddN dX10_layPrices_29 ?_
          refine mx_ialdV ((3 + 4 * s) + 3) (nI (gC v s)) dX10_layPrices_30 (by assumption) ⟨rfl, by omega, by omega⟩ (by rw [eo _ _ hgn]; exact (hg.2.2.2 s (by omega)).2.2.2) ?_
          refine mx_top (y := nI (prM v bt s)) (congrArg nI (Eq.symm (if_neg (fun q => c16 ((oI_some hbt (by omega)).mpr q))))) ?_
          exact J31 () (by omega)
        · skip
          refine mx_iconstN 0 dX10_layPrices_19 (by decide) ?_
          refine mx_goto (tgt := 31) dX10_layPrices_20 (by decide) ?_
          refine mx_top (y := nI (prM v bt s)) (congrArg nI (Eq.symm (if_pos ((oI_some hbt (by omega)).mp c16)))) ?_
          exact J31 () (by omega)
  refine mx_iconstN 0 dX10_layPrices_0 (by decide) ?_
  refine mx_istoreE_n (i := 3) (ls' := [some (.ref m), some (.ref g), some (.int (oI bt)), some (.int (nI 0))]) (hi := rfl) (hd := dX10_layPrices_1) (hn := by decide) (hok := rfl) (hls := rfl) ?_
  exact L2 _ 0 _ (Nat.lt_succ_self _) (Nat.zero_le _) (fun t ht => absurd ht (Nat.not_lt_zero _)) (fun b k _ => rfl)

set_option maxHeartbeats 4000000 in
set_option maxRecDepth 100000 in
theorem mt_layFits (G : mx_G) (I : mx_I) (m : Nat) (hs : oMD G m) (A : Pa) (ha : auN I m A) (hA : auP A) : mx_CTi yX10_layFits mX10_layFits 2 [.ref m] G I (fun rv I1 => rv = none ∧ (∀ k, k < 4 → I1 (m + 18) k = nI (pEn A 0 k)) ∧ (∀ k, k < 4 → I1 (m + 19) k = nI (pEn A 1 k)) ∧ (∀ b k, b ≠ m + 18 → b ≠ m + 19 → I1 b k = I b k)) := by
  refine mx_start (k := 1) (by decide) rfl rfl (fun h => nomatch h) (Nat.le_of_ble_eq_true rfl) ?_
  show mx_V mX10_layFits mx_S0 2 0 0 0 [some (.ref m), none] [] G I (fun rv Gz Iz => (fun rv I1 => rv = none ∧ (∀ k, k < 4 → I1 (m + 18) k = nI (pEn A 0 k)) ∧ (∀ k, k < 4 → I1 (m + 19) k = nI (pEn A 1 k)) ∧ (∀ b k, b ≠ m + 18 → b ≠ m + 19 → I1 b k = I b k)) rv Iz ∧ Gz = G) (fun _ _ _ => False)
  have hs0 := hs
  obtain ⟨tgm, -, -, -, -, -, -, -, -, -, -, -, -, -, -, -, -, -, ⟨r_on, t_on, l_on⟩, ⟨r_back, t_back, l_back⟩, -⟩ := hs
  have L2 : ∀ (fq : Nat) (k : Nat) (I1 : mx_I), 4 - k < fq → (k ≤ 4) → (∀ t, t < k → I1 (m + 18) t = nI (pEn A 0 t)) → (∀ t, t < k → I1 (m + 19) t = nI (pEn A 1 t)) → (∀ b j, b ≠ m + 18 → b ≠ m + 19 → I1 b j = I b j) → mx_V mX10_layFits mx_S0 2 0 0 2 [some (.ref m), some (.int (nI k))] [] G I1 (fun rv Gz Iz => (fun rv I1 => rv = none ∧ (∀ k, k < 4 → I1 (m + 18) k = nI (pEn A 0 k)) ∧ (∀ k, k < 4 → I1 (m + 19) k = nI (pEn A 1 k)) ∧ (∀ b k, b ≠ m + 18 → b ≠ m + 19 → I1 b k = I b k)) rv Iz ∧ Gz = G) (fun _ _ _ => False) := by
    intro fq
    induction fq with
    | zero => intro k I1 hfu; exact absurd hfu (Nat.not_lt_zero _)
    | succ fq ih =>
      intro k I1 hfu hk ea eb eo
      refine mx_iload_n (i := 1) (hi := rfl) (hl := rfl) (hd := dX10_layFits_2) ?_
      refine mx_iconstN 4 dX10_layFits_3 (by decide) ?_
      refine mx_cmpN_ge 37 dX10_layFits_4 (by decide) (by omega) (by omega) (fun c4 => ?_) (fun c4 => ?_)
      · skip
        exact mx_vret dX10_layFits_37 rfl (⟨⟨rfl, fun k hk => ea k (by omega), fun k hk => eb k (by omega), eo⟩, rfl⟩)
      · skip
        refine mx_aload_n (i := 0) (hi := rfl) (hl := rfl) (hd := dX10_layFits_7) ?_
        refine mx_getR (ci := 10) (k := 25) (r := (m + 18)) dX10_layFits_8 k_1038 (by decide) rfl (by assumption) (by assumption) (by omega) ?_
        refine mx_iload_n (i := 1) (hi := rfl) (hl := rfl) (hd := dX10_layFits_11) ?_
        refine mx_aload_n (i := 0) (hi := rfl) (hl := rfl) (hd := dX10_layFits_12) ?_
        refine mx_iload_n (i := 1) (hi := rfl) (hl := rfl) (hd := dX10_layFits_13) ?_
        refine mx_iconstN 0 dX10_layFits_14 (by decide) ?_
        refine mx_top (y := mx_b (decide (false = true))) (by decide) ?_
        refine mx_callVp (ci := 10) (As := [.int (nI k), .int (nI 0)]) (rest := [.int (nI k), .ref (m + 18)]) dX10_layFits_15 (mt_fits G I1 m hs0 A (ha.k (fun j _ _ => eo _ _ (by omega) (by omega)) (fun b j _ _ => eo _ _ (by omega) (by omega))) hA k false (by omega)) km_X10_fits rfl k_1218 k_1220 k_44 (by assumption) rfl rfl (Nat.le_of_ble_eq_true rfl) (by decide) ?_
        refine mx_iast k dX10_layFits_18 (by assumption) ⟨rfl, by omega, by omega⟩ ?_
        refine mx_aload_n (i := 0) (hi := rfl) (hl := rfl) (hd := dX10_layFits_19) ?_
        refine mx_getR (ci := 10) (k := 26) (r := (m + 19)) dX10_layFits_20 k_1039 (by decide) rfl (by assumption) (by assumption) (by omega) ?_
        refine mx_iload_n (i := 1) (hi := rfl) (hl := rfl) (hd := dX10_layFits_23) ?_
        refine mx_aload_n (i := 0) (hi := rfl) (hl := rfl) (hd := dX10_layFits_24) ?_
        refine mx_iload_n (i := 1) (hi := rfl) (hl := rfl) (hd := dX10_layFits_25) ?_
        refine mx_iconstN 1 dX10_layFits_26 (by decide) ?_
        refine mx_top (y := mx_b (decide (true = true))) (by decide) ?_
        refine mx_callVp (ci := 10) (As := [.int (nI k), .int (nI 1)]) (rest := [.int (nI k), .ref (m + 19)]) dX10_layFits_27 (mt_fits G (mx_u I1 (m + 18) k (nI (pEn A 0 k))) m hs0 A (ha.k (fun j _ _ => by rw [mx_u_at, if_neg (by omega)]; exact eo _ _ (by omega) (by omega)) (fun b j _ _ => by rw [mx_u_at, if_neg (by omega)]; exact eo _ _ (by omega) (by omega))) hA k true (by omega)) km_X10_fits rfl k_1218 k_1220 k_44 (by assumption) rfl rfl (Nat.le_of_ble_eq_true rfl) (by decide) ?_
        refine mx_iast k dX10_layFits_30 (by assumption) ⟨rfl, by omega, by omega⟩ ?_
        refine mx_iincE (i := 1) (ls' := [some (.ref m), some (.int (nI (k + 1)))]) 1 dX10_layFits_31 rfl (by decide) (by decide) rfl rfl ?_
        refine mx_goto (tgt := 2) dX10_layFits_34 (by decide) ?_
        exact ih (k + 1) _ (by omega) (by omega) (fun t ht => by
          rw [mx_u_at, if_neg (by omega), mx_u_at]
          by_cases e : t = k
          · rw [if_pos ⟨rfl, e⟩, e]; rfl
          · rw [if_neg (by omega)]; exact ea t (by omega)) (fun t ht => by
          rw [mx_u_at]
          by_cases e : t = k
          · rw [if_pos ⟨rfl, e⟩, e]; rfl
          · rw [if_neg (by omega), mx_u_at, if_neg (by omega)]; exact eb t (by omega)) (fun b j h1 h2 => by rw [mx_u_at, if_neg (by omega), mx_u_at, if_neg (by omega)]; exact eo b j h1 h2)
  refine mx_iconstN 0 dX10_layFits_0 (by decide) ?_
  refine mx_istoreE_n (i := 1) (ls' := [some (.ref m), some (.int (nI 0))]) (hi := rfl) (hd := dX10_layFits_1) (hn := by decide) (hok := rfl) (hls := rfl) ?_
  exact L2 _ 0 _ (Nat.lt_succ_self _) (Nat.zero_le _) (fun t ht => absurd ht (Nat.not_lt_zero _)) (fun t ht => absurd ht (Nat.not_lt_zero _)) (fun b j _ _ => rfl)
