/-! THE REFERENCE: reads a graph -/
abbrev sgU (ch : Nat → Nat) (n s lo hi : Nat) : Prop := s < n ∧ lo ≤ ch s ∧ ch s ≤ hi
theorem nI_ne9 {n : Nat} (h : n < 2 ^ 31) : ¬ nI n = -9 := fun q => by
  have h1 := congrArg Int32.toInt q
  rw [nI_toInt h] at h1
  have h2 : (-9 : Int32).toInt = -9 := by decide
  omega
/-- the text and the spot -/
def txS (I : mx_I) (m n s : Nat) (ch : Nat → Nat) : Prop := I m 2 = nI n ∧ n ≤ 110 ∧ (∀ i, i < n → I (m + 1) i = nI (ch i)) ∧ (∀ i, i < n → ch i < 256) ∧ I m 3 = nI s ∧ s ≤ n
theorem txS.u {I I1 : mx_I} {m n s s' : Nat} {ch : Nat → Nat} (h : txS I m n s ch) (e : ∀ b j, ((b = m ∧ j = 2) ∨ b = m + 1) → I1 b j = I b j) (e3 : I1 m 3 = nI s') (hs : s' ≤ n) : txS I1 m n s' ch := ⟨(e _ _ (by omega)).trans h.1, h.2.1, fun i hi => (e _ _ (by omega)).trans (h.2.2.1 i hi), h.2.2.2.1, e3, hs⟩

theorem mt_in9 (G : mx_G) (I : mx_I) (lo hi : Nat) (hlo : lo < 1000) (hhi : hi < 1000) : mx_CTp yX10_in mX10_in 1 [.long (-9 : Int32).toInt64, .long (nI lo).toInt64, .long (nI hi).toInt64] G I (some (.int (mx_b (decide False)))) :=
  (mt_in G I (-9 : Int32).toInt64 (nI lo).toInt64 (nI hi).toInt64).eq rfl (congrArg (fun x => some (Value.int (mx_b x))) (decide_eq_decide.mpr (by
    rw [Int32.toInt_toInt64, Int32.toInt_toInt64, Int32.toInt_toInt64, nI_toInt (n := lo) (by omega), nI_toInt (n := hi) (by omega)]
    have h2 : (-9 : Int32).toInt = -9 := by decide
    exact ⟨fun q => by omega, False.elim⟩)))
theorem mt_inN (G : mx_G) (I : mx_I) (v lo hi : Nat) (h1 : v < 2 ^ 31) (h2 : lo < 2 ^ 31) (h3 : hi < 2 ^ 31) : mx_CTp yX10_in mX10_in 1 [.long (nI v).toInt64, .long (nI lo).toInt64, .long (nI hi).toInt64] G I (some (.int (mx_b (decide (lo ≤ v ∧ v ≤ hi))))) :=
  (mt_in G I (nI v).toInt64 (nI lo).toInt64 (nI hi).toInt64).eq rfl (congrArg (fun x => some (Value.int (mx_b x))) (decide_eq_decide.mpr (by
    rw [Int32.toInt_toInt64, Int32.toInt_toInt64, Int32.toInt_toInt64, nI_toInt h1, nI_toInt h2, nI_toInt h3]
    omega)))

set_option maxHeartbeats 4000000 in
set_option maxRecDepth 100000 in
theorem mt_signT (G : mx_G) (I : mx_I) (m : Nat) (hs : oMD G m) (n s : Nat) (ch : Nat → Nat) (ht : txS I m n s ch) (lo hi : Nat) (hlo : lo < 1000) (hhi : hi < 1000) (hg : sgU ch n s lo hi) : mx_CTi yX10_sign mX10_sign 2 [.ref m, .int (nI lo), .int (nI hi)] G I (fun rv I1 => rv = some (.int (nI (ch s - lo))) ∧ I1 = mx_u I m 3 (nI (s + 1))) := by
  refine mx_start (k := 1) (by decide) rfl rfl (fun h => nomatch h) (Nat.le_of_ble_eq_true rfl) ?_
  show mx_V mX10_sign mx_S0 2 0 0 0 [some (.ref m), some (.int (nI lo)), some (.int (nI hi)), none] [] G I (fun rv Gz Iz => (fun rv I1 => rv = some (.int (nI (ch s - lo))) ∧ I1 = mx_u I m 3 (nI (s + 1))) rv Iz ∧ Gz = G) (fun _ _ _ => False)
  have hs0 := hs
  obtain ⟨tgm, ⟨r_text, t_text, l_text⟩, -⟩ := hs
  obtain ⟨h2, hn110, htx, htc, h3, hsn⟩ := ht
  have hcs := htc s hg.1
  refine mx_aload_n (i := 0) (hi := rfl) (hl := rfl) (hd := dX10_sign_0) ?_
  refine mx_getV (ci := 10) (k := 3) (nI s) dX10_sign_1 k_1016 (by decide) rfl (by assumption) h3 ?_
  refine mx_aload_n (i := 0) (hi := rfl) (hl := rfl) (hd := dX10_sign_4) ?_
  refine mx_getV (ci := 10) (k := 2) (nI n) dX10_sign_5 k_1015 (by decide) rfl (by assumption) h2 ?_
  refine mx_cmpN_ge 23 dX10_sign_8 (by decide) (by omega) (by omega) (fun c8 => ?_) (fun c8 => ?_)
  · skip
    exact absurd hg.1 (by omega)
  · skip
    refine mx_aload_n (i := 0) (hi := rfl) (hl := rfl) (hd := dX10_sign_11) ?_
    refine mx_getR (ci := 10) (k := 1) (r := (m + 1)) dX10_sign_12 k_1014 (by decide) rfl (by assumption) (by assumption) (by omega) ?_
    refine mx_aload_n (i := 0) (hi := rfl) (hl := rfl) (hd := dX10_sign_15) ?_
    refine mx_getV (ci := 10) (k := 3) (nI s) dX10_sign_16 k_1016 (by decide) rfl (by assumption) h3 ?_
    refine mx_ialdV s (nI (ch s)) dX10_sign_19 (by assumption) ⟨rfl, by omega, by omega⟩ (htx s (by omega)) ?_
    refine mx_goto (tgt := 25) dX10_sign_20 (by decide) ?_
    refine mx_istoreE_n (i := 3) (ls' := [some (.ref m), some (.int (nI lo)), some (.int (nI hi)), some (.int (nI (ch s)))]) (hi := rfl) (hd := dX10_sign_25) (hn := by decide) (hok := rfl) (hls := rfl) ?_
    refine mx_iload_n (i := 3) (hi := rfl) (hl := rfl) (hd := dX10_sign_26) ?_
    refine mx_i2l (hv := rfl) (hd := dX10_sign_27) ?_
    refine mx_iload_n (i := 1) (hi := rfl) (hl := rfl) (hd := dX10_sign_28) ?_
    refine mx_i2l (hv := rfl) (hd := dX10_sign_29) ?_
    refine mx_iload_n (i := 2) (hi := rfl) (hl := rfl) (hd := dX10_sign_30) ?_
    refine mx_i2l (hv := rfl) (hd := dX10_sign_31) ?_
    refine mx_callSp (As := [.long ((nI (ch s)).toInt64), .long ((nI lo).toInt64), .long ((nI hi).toInt64)]) (rest := []) dX10_sign_32 (mt_inN G I (ch s) lo hi (by omega) (by omega) (by omega)) km_X10_in rfl k_1119 k_1120 rfl rfl (Nat.le_of_ble_eq_true rfl) (by decide) ?_
    refine mx_ifB_ne 41 dX10_sign_35 (by decide) (fun c35 => ?_) (fun c35 => ?_)
    · skip
      refine mx_aload_n (i := 0) (hi := rfl) (hl := rfl) (hd := dX10_sign_41) ?_
      refine mx_dup (hva := rfl) (hd := dX10_sign_42) ?_
      refine mx_getV (ci := 10) (k := 3) (nI s) dX10_sign_43 k_1016 (by decide) rfl (by assumption) h3 ?_
      refine mx_iconstN 1 dX10_sign_46 (by decide) ?_
      refine mx_iaddN dX10_sign_47 ?_
      refine mx_putI (ci := 10) (k := 3) dX10_sign_48 k_1016 (by decide) rfl rfl rfl rfl (by assumption) ?_
      refine mx_iload_n (i := 3) (hi := rfl) (hl := rfl) (hd := dX10_sign_51) ?_
      refine mx_iload_n (i := 1) (hi := rfl) (hl := rfl) (hd := dX10_sign_52) ?_
      refine mx_isubN dX10_sign_53 (hg.2.1) ?_
      exact mx_iret dX10_sign_54 rfl rfl (⟨⟨rfl, rfl⟩, rfl⟩)
    · skip
      exact absurd hg.2 c35

set_option maxHeartbeats 4000000 in
set_option maxRecDepth 100000 in
theorem mt_signF (G : mx_G) (I : mx_I) (m : Nat) (hs : oMD G m) (n s : Nat) (ch : Nat → Nat) (ht : txS I m n s ch) (lo hi : Nat) (hlo : lo < 1000) (hhi : hi < 1000) (hg : ¬ sgU ch n s lo hi) : mx_CTp yX10_sign mX10_sign 2 [.ref m, .int (nI lo), .int (nI hi)] G I (some (.int (-9))) := by
  refine mx_start (k := 1) (by decide) rfl rfl (fun h => nomatch h) (Nat.le_of_ble_eq_true rfl) ?_
  show mx_V mX10_sign mx_S0 2 0 0 0 [some (.ref m), some (.int (nI lo)), some (.int (nI hi)), none] [] G I (fun rv Gz Iz => rv = some (.int (-9)) ∧ Gz = G ∧ Iz = I) (fun _ _ _ => False)
  have hs0 := hs
  obtain ⟨tgm, ⟨r_text, t_text, l_text⟩, -⟩ := hs
  obtain ⟨h2, hn110, htx, htc, h3, hsn⟩ := ht
  refine mx_aload_n (i := 0) (hi := rfl) (hl := rfl) (hd := dX10_sign_0) ?_
  refine mx_getV (ci := 10) (k := 3) (nI s) dX10_sign_1 k_1016 (by decide) rfl (by assumption) h3 ?_
  refine mx_aload_n (i := 0) (hi := rfl) (hl := rfl) (hd := dX10_sign_4) ?_
  refine mx_getV (ci := 10) (k := 2) (nI n) dX10_sign_5 k_1015 (by decide) rfl (by assumption) h2 ?_
  refine mx_cmpN_ge 23 dX10_sign_8 (by decide) (by omega) (by omega) (fun c8 => ?_) (fun c8 => ?_)
  · skip
    refine mx_bipush (v := (-9)) (by decide) dX10_sign_23 ?_
    refine mx_istoreE_n (i := 3) (ls' := [some (.ref m), some (.int (nI lo)), some (.int (nI hi)), some (.int (-9))]) (hi := rfl) (hd := dX10_sign_25) (hn := by decide) (hok := rfl) (hls := rfl) ?_
    refine mx_iload_n (i := 3) (hi := rfl) (hl := rfl) (hd := dX10_sign_26) ?_
    refine mx_i2l (hv := rfl) (hd := dX10_sign_27) ?_
    refine mx_iload_n (i := 1) (hi := rfl) (hl := rfl) (hd := dX10_sign_28) ?_
    refine mx_i2l (hv := rfl) (hd := dX10_sign_29) ?_
    refine mx_iload_n (i := 2) (hi := rfl) (hl := rfl) (hd := dX10_sign_30) ?_
    refine mx_i2l (hv := rfl) (hd := dX10_sign_31) ?_
    refine mx_callSp (As := [.long ((-9).toInt64), .long ((nI lo).toInt64), .long ((nI hi).toInt64)]) (rest := []) dX10_sign_32 (mt_in9 G I lo hi hlo hhi) km_X10_in rfl k_1119 k_1120 rfl rfl (Nat.le_of_ble_eq_true rfl) (by decide) ?_
    refine mx_ifB_ne 41 dX10_sign_35 (by decide) (fun c35 => ?_) (fun c35 => ?_)
    · skip
      exact absurd c35 (by first | exact fun q => hg ⟨by omega, q⟩ | (intro q; omega))
    · skip
      refine mx_bipush (v := (-9)) (by decide) dX10_sign_38 ?_
      exact mx_iret dX10_sign_40 rfl rfl (⟨rfl, rfl, rfl⟩)
  · skip
    refine mx_aload_n (i := 0) (hi := rfl) (hl := rfl) (hd := dX10_sign_11) ?_
    refine mx_getR (ci := 10) (k := 1) (r := (m + 1)) dX10_sign_12 k_1014 (by decide) rfl (by assumption) (by assumption) (by omega) ?_
    refine mx_aload_n (i := 0) (hi := rfl) (hl := rfl) (hd := dX10_sign_15) ?_
    refine mx_getV (ci := 10) (k := 3) (nI s) dX10_sign_16 k_1016 (by decide) rfl (by assumption) h3 ?_
    refine mx_ialdV s (nI (ch s)) dX10_sign_19 (by assumption) ⟨rfl, by omega, by omega⟩ (htx s (by omega)) ?_
    refine mx_goto (tgt := 25) dX10_sign_20 (by decide) ?_
    refine mx_istoreE_n (i := 3) (ls' := [some (.ref m), some (.int (nI lo)), some (.int (nI hi)), some (.int (nI (ch s)))]) (hi := rfl) (hd := dX10_sign_25) (hn := by decide) (hok := rfl) (hls := rfl) ?_
    refine mx_iload_n (i := 3) (hi := rfl) (hl := rfl) (hd := dX10_sign_26) ?_
    refine mx_i2l (hv := rfl) (hd := dX10_sign_27) ?_
    refine mx_iload_n (i := 1) (hi := rfl) (hl := rfl) (hd := dX10_sign_28) ?_
    refine mx_i2l (hv := rfl) (hd := dX10_sign_29) ?_
    refine mx_iload_n (i := 2) (hi := rfl) (hl := rfl) (hd := dX10_sign_30) ?_
    refine mx_i2l (hv := rfl) (hd := dX10_sign_31) ?_
    refine mx_callSp (As := [.long ((nI (ch s)).toInt64), .long ((nI lo).toInt64), .long ((nI hi).toInt64)]) (rest := []) dX10_sign_32 (mt_inN G I (ch s) lo hi (by have := htc s (by omega); omega) (by omega) (by omega)) km_X10_in rfl k_1119 k_1120 rfl rfl (Nat.le_of_ble_eq_true rfl) (by decide) ?_
    refine mx_ifB_ne 41 dX10_sign_35 (by decide) (fun c35 => ?_) (fun c35 => ?_)
    · skip
      exact absurd c35 (by first | exact fun q => hg ⟨by omega, q⟩ | (intro q; omega))
    · skip
      refine mx_bipush (v := (-9)) (by decide) dX10_sign_38 ?_
      exact mx_iret dX10_sign_40 rfl rfl (⟨rfl, rfl, rfl⟩)

abbrev stB (ch : Nat → Nat) (n k : Nat) : Prop := 6 + 4 * k ≤ n ∧ rcOk ch (2 + 4 * k) ∧ rcOk ch (3 + 4 * k) ∧ rcOk ch (4 + 4 * k) ∧ rcOk ch (5 + 4 * k)
def stV (ch : Nat → Nat) (n k : Nat) : Bool := decide (6 + 4 * k ≤ n) && (decide (rcOk ch (2 + 4 * k)) && (decide (rcOk ch (3 + 4 * k)) && (decide (rcOk ch (4 + 4 * k)) && decide (rcOk ch (5 + 4 * k)))))
theorem stV_iff {ch : Nat → Nat} {n k : Nat} : stV ch n k = true ↔ stB ch n k := by
  unfold stV
  rw [Bool.and_eq_true, Bool.and_eq_true, Bool.and_eq_true, Bool.and_eq_true, decide_eq_true_eq, decide_eq_true_eq, decide_eq_true_eq, decide_eq_true_eq, decide_eq_true_eq]
theorem rc0 {ch : Nat → Nat} {k : Nat} : rcOk ch (2 + 4 * k) ↔ k < 24 ∧ 48 ≤ ch (2 + 4 * k) ∧ ch (2 + 4 * k) - 48 < ch 1 - 48 := by
  unfold rcOk
  rw [show (2 + 4 * k - 2) / 4 = k by omega, show (2 + 4 * k - 2) % 4 = 0 by omega]
  constructor
  · rintro (h | h | ⟨-, h1, h | h | h | h⟩)
    · omega
    · omega
    · exact ⟨h1, h.2⟩
    · exact absurd h.1 (by decide)
    · exact absurd h.1 (by decide)
    · exact absurd h.1 (by decide)
  · rintro ⟨h1, h2⟩
    exact Or.inr (Or.inr ⟨by omega, h1, Or.inl ⟨rfl, h2⟩⟩)
theorem rc1 {ch : Nat → Nat} {k : Nat} : rcOk ch (3 + 4 * k) ↔ k < 24 ∧ 97 ≤ ch (3 + 4 * k) ∧ ch (3 + 4 * k) ≤ 100 := by
  unfold rcOk
  rw [show (3 + 4 * k - 2) / 4 = k by omega, show (3 + 4 * k - 2) % 4 = 1 by omega]
  constructor
  · rintro (h | h | ⟨-, h1, h | h | h | h⟩)
    · omega
    · omega
    · exact absurd h.1 (by decide)
    · exact ⟨h1, h.2⟩
    · exact absurd h.1 (by decide)
    · exact absurd h.1 (by decide)
  · rintro ⟨h1, h2⟩
    exact Or.inr (Or.inr ⟨by omega, h1, Or.inr (Or.inl ⟨rfl, h2⟩)⟩)
theorem rc2 {ch : Nat → Nat} {k : Nat} : rcOk ch (4 + 4 * k) ↔ k < 24 ∧ 48 ≤ ch (4 + 4 * k) ∧ ch (4 + 4 * k) - 48 < ch 1 - 48 ∧ ¬ ch (4 + 4 * k) - 48 = ch (2 + 4 * k) - 48 ∧ gIx (gtx ch k) (ch (2 + 4 * k) - 48) (ch (3 + 4 * k) - 97) (ch (4 + 4 * k) - 48) = none := by
  unfold rcOk
  rw [show (4 + 4 * k - 2) / 4 = k by omega, show (4 + 4 * k - 2) % 4 = 2 by omega]
  constructor
  · rintro (h | h | ⟨-, h1, h | h | h | h⟩)
    · omega
    · omega
    · exact absurd h.1 (by decide)
    · exact absurd h.1 (by decide)
    · exact ⟨h1, h.2⟩
    · exact absurd h.1 (by decide)
  · rintro ⟨h1, h2⟩
    exact Or.inr (Or.inr ⟨by omega, h1, Or.inr (Or.inr (Or.inl ⟨rfl, h2⟩))⟩)
theorem rc3 {ch : Nat → Nat} {k : Nat} : rcOk ch (5 + 4 * k) ↔ k < 24 ∧ 49 ≤ ch (5 + 4 * k) ∧ ch (5 + 4 * k) ≤ 57 := by
  unfold rcOk
  rw [show (5 + 4 * k - 2) / 4 = k by omega, show (5 + 4 * k - 2) % 4 = 3 by omega]
  constructor
  · rintro (h | h | ⟨-, h1, h | h | h | h⟩)
    · omega
    · omega
    · exact absurd h.1 (by decide)
    · exact absurd h.1 (by decide)
    · exact absurd h.1 (by decide)
    · exact ⟨h1, h.2⟩
  · rintro ⟨h1, h2⟩
    exact Or.inr (Or.inr ⟨by omega, h1, Or.inr (Or.inr (Or.inr ⟨rfl, h2⟩))⟩)
theorem rg_stop {ch : Nat → Nat} {n i : Nat} (hi : i ≤ n) (h : i < n → ¬ rcOk ch i) (h2 : i = n → (n < 2 ∨ ¬ (n - 2) % 4 = 0)) : rgF ch n (n - i) i = some i := by
  by_cases c : i < n
  · exact rgF_f c (h c)
  · obtain rfl : i = n := by omega
    rw [Nat.sub_self]
    exact if_pos (h2 rfl)
theorem rg_1 {ch : Nat → Nat} {n k : Nat} (hn : 2 + 4 * k < n) (h : rcOk ch (2 + 4 * k)) : rgF ch n (n - (2 + 4 * k)) (2 + 4 * k) = rgF ch n (n - (3 + 4 * k)) (3 + 4 * k) := by
  rw [rgF_t hn h, show 2 + 4 * k + 1 = 3 + 4 * k by omega]
theorem rg_2 {ch : Nat → Nat} {n k : Nat} (hn : 3 + 4 * k < n) (h : rcOk ch (3 + 4 * k)) : rgF ch n (n - (3 + 4 * k)) (3 + 4 * k) = rgF ch n (n - (4 + 4 * k)) (4 + 4 * k) := by
  rw [rgF_t hn h, show 3 + 4 * k + 1 = 4 + 4 * k by omega]
theorem rg_3 {ch : Nat → Nat} {n k : Nat} (hn : 4 + 4 * k < n) (h : rcOk ch (4 + 4 * k)) : rgF ch n (n - (4 + 4 * k)) (4 + 4 * k) = rgF ch n (n - (5 + 4 * k)) (5 + 4 * k) := by
  rw [rgF_t hn h, show 4 + 4 * k + 1 = 5 + 4 * k by omega]
theorem rg_4 {ch : Nat → Nat} {n k : Nat} (h : stB ch n k) : rgF ch n (n - (2 + 4 * k)) (2 + 4 * k) = rgF ch n (n - (6 + 4 * k)) (6 + 4 * k) := by
  obtain ⟨h0, h1, h2, h3, h4⟩ := h
  rw [rg_1 (by omega) h1, rg_2 (by omega) h2, rg_3 (by omega) h3, rgF_t (by omega) h4, show 5 + 4 * k + 1 = 6 + 4 * k by omega]
theorem rs_1 {ch : Nat → Nat} {n k : Nat} (hn : 2 + 4 * k < n) (h : ¬ rcOk ch (2 + 4 * k)) : rgF ch n (n - (2 + 4 * k)) (2 + 4 * k) = some (2 + 4 * k) ∧ ¬ stB ch n k := ⟨rgF_f hn h, fun q => h q.2.1⟩
theorem rs_2 {ch : Nat → Nat} {n k : Nat} (hn : 2 + 4 * k < n) (h1 : rcOk ch (2 + 4 * k)) (h : 3 + 4 * k < n → ¬ rcOk ch (3 + 4 * k)) : rgF ch n (n - (2 + 4 * k)) (2 + 4 * k) = some (3 + 4 * k) ∧ ¬ stB ch n k := ⟨by rw [rg_1 hn h1]; exact rg_stop (by omega) h (by omega), fun q => h (by have := q.1; omega) q.2.2.1⟩
theorem rs_3 {ch : Nat → Nat} {n k : Nat} (hn : 3 + 4 * k < n) (h1 : rcOk ch (2 + 4 * k)) (h2 : rcOk ch (3 + 4 * k)) (h : 4 + 4 * k < n → ¬ rcOk ch (4 + 4 * k)) : rgF ch n (n - (2 + 4 * k)) (2 + 4 * k) = some (4 + 4 * k) ∧ ¬ stB ch n k := ⟨by rw [rg_1 (by omega) h1, rg_2 hn h2]; exact rg_stop (by omega) h (by omega), fun q => h (by have := q.1; omega) q.2.2.2.1⟩
theorem rs_4 {ch : Nat → Nat} {n k : Nat} (hn : 4 + 4 * k < n) (h1 : rcOk ch (2 + 4 * k)) (h2 : rcOk ch (3 + 4 * k)) (h3 : rcOk ch (4 + 4 * k)) (h : 5 + 4 * k < n → ¬ rcOk ch (5 + 4 * k)) : rgF ch n (n - (2 + 4 * k)) (2 + 4 * k) = some (5 + 4 * k) ∧ ¬ stB ch n k := ⟨by rw [rg_1 (by omega) h1, rg_2 (by omega) h2, rg_3 hn h3]; exact rg_stop (by omega) h (by omega), fun q => h (by have := q.1; omega) q.2.2.2.2⟩
theorem gtx_s (ch : Nat → Nat) (k : Nat) : gPut (gtx ch k) (ch (2 + 4 * k) - 48) (ch (3 + 4 * k) - 97) (ch (4 + 4 * k) - 48) (ch (5 + 4 * k) - 48) = gtx ch (k + 1) := by
  have e : ∀ (f : Nat → Nat), (fun s => if s = k then f k else f s) = f := fun f => by
    funext s
    split
    · next h => rw [h]
    · rfl
  show ((ch 1 - 48, k + 1, (fun s => if s = k then ch (2 + 4 * k) - 48 else ch (2 + 4 * s) - 48), (fun s => if s = k then ch (3 + 4 * k) - 97 else ch (3 + 4 * s) - 97), (fun s => if s = k then ch (4 + 4 * k) - 48 else ch (4 + 4 * s) - 48), fun s => if s = k then ch (5 + 4 * k) - 48 else ch (5 + 4 * s) - 48) : Gr) = (ch 1 - 48, k + 1, (fun s => ch (2 + 4 * s) - 48), (fun s => ch (3 + 4 * s) - 97), (fun s => ch (4 + 4 * s) - 48), fun s => ch (5 + 4 * s) - 48)
  rw [e (fun s => ch (2 + 4 * s) - 48), e (fun s => ch (3 + 4 * s) - 97), e (fun s => ch (4 + 4 * s) - 48), e (fun s => ch (5 + 4 * s) - 48)]
def rdQ (I : mx_I) (m n k : Nat) (ch : Nat → Nat) (rv : Option Value) (I1 : mx_I) : Prop := rv = some (.int (mx_b (decide (stV ch n k = true)))) ∧ (∀ b j, ¬ (b = m ∧ j = 3) → b ≠ m + 2 → I1 b j = I b j) ∧ (stB ch n k → txS I1 m n (6 + 4 * k) ch ∧ gaF (I1 (m + 2)) (gtx ch (k + 1)) ∧ gxF (I (m + 2)) (I1 (m + 2))) ∧ (¬ stB ch n k → ∃ s, txS I1 m n s ch ∧ rgF ch n (n - (2 + 4 * k)) (2 + 4 * k) = some s)
theorem rdQ.f {I I1 : mx_I} {m n k s : Nat} {ch : Nat → Nat} (h : rgF ch n (n - (2 + 4 * k)) (2 + 4 * k) = some s ∧ ¬ stB ch n k) (ht : txS I1 m n s ch) (hf : ∀ b j, ¬ (b = m ∧ j = 3) → b ≠ m + 2 → I1 b j = I b j) : rdQ I m n k ch (some (.int (nI 0))) I1 := ⟨congrArg (fun z => some (Value.int z)) (mx_bF (fun q => h.2 (stV_iff.mp q))), hf, fun q => absurd q h.2, fun _ => ⟨s, ht, h.1⟩⟩

set_option maxHeartbeats 4000000 in
set_option maxRecDepth 100000 in
theorem mt_readStep (G : mx_G) (I : mx_I) (m : Nat) (hs : oMD G m) (n k : Nat) (ch : Nat → Nat) (ht : txS I m n (2 + 4 * k) ch) (hkn : 2 + 4 * k < n) (hk : k ≤ 24) (hg : gaF (I (m + 2)) (gtx ch k)) : mx_CTi yX10_readStep mX10_readStep 4 [.ref m] G I (fun rv I1 => rdQ I m n k ch rv I1) := by
  refine mx_start (k := 5) (by decide) rfl rfl (fun h => nomatch h) (Nat.le_of_ble_eq_true rfl) ?_
  show mx_V mX10_readStep mx_S0 4 0 0 0 [some (.ref m), none, none, none, none, none] [] G I (fun rv Gz Iz => (fun rv I1 => rdQ I m n k ch rv I1) rv Iz ∧ Gz = G) (fun _ _ _ => False)
  have hs0 := hs
  obtain ⟨tgm, -, ⟨r_read, t_read, l_read⟩, -⟩ := hs
  have hcb := ht.2.2.2.1
  have hP8 : ch 1 - 48 ≤ 8 := hg.1.1
  have hn110 := ht.2.1
  refine mx_aload_n (i := 0) (hi := rfl) (hl := rfl) (hd := dX10_readStep_0) ?_
  refine mx_getR (ci := 10) (k := 4) (r := (m + 2)) dX10_readStep_1 k_1017 (by decide) rfl (by assumption) (by assumption) (by omega) ?_
  refine mx_iconstN 0 dX10_readStep_4 (by decide) ?_
  refine mx_ialdV 0 (nI (ch 1 - 48)) dX10_readStep_5 (by assumption) ⟨rfl, by omega, by omega⟩ hg.2.1 ?_
  refine mx_istoreE_n (i := 1) (ls' := [some (.ref m), some (.int (nI (ch 1 - 48))), none, none, none, none]) (hi := rfl) (hd := dX10_readStep_6) (hn := by decide) (hok := rfl) (hls := rfl) ?_
  refine mx_aload_n (i := 0) (hi := rfl) (hl := rfl) (hd := dX10_readStep_7) ?_
  refine mx_getR (ci := 10) (k := 4) (r := (m + 2)) dX10_readStep_8 k_1017 (by decide) rfl (by assumption) (by assumption) (by omega) ?_
  refine mx_iconstN 1 dX10_readStep_11 (by decide) ?_
  refine mx_ialdV 1 (nI k) dX10_readStep_12 (by assumption) ⟨rfl, by omega, by omega⟩ hg.2.2.1 ?_
  refine mx_bipushN 24 dX10_readStep_13 (by decide) ?_
  refine mx_cmpN_ge 33 dX10_readStep_15 (by decide) (by omega) (by omega) (fun c15 => ?_) (fun c15 => ?_)
  · skip
    refine mx_bipush (v := (-9)) (by decide) dX10_readStep_33 ?_
    refine mx_istoreE_n (i := 2) (ls' := [some (.ref m), some (.int (nI (ch 1 - 48))), some (.int (-9)), none, none, none]) (hi := rfl) (hd := dX10_readStep_35) (hn := by decide) (hok := rfl) (hls := rfl) ?_
    refine mx_iload_n (i := 2) (hi := rfl) (hl := rfl) (hd := dX10_readStep_36) ?_
    refine mx_bipush (v := (-9)) (by decide) dX10_readStep_37 ?_
    refine mx_icmp_ne (tgt := 47) dX10_readStep_39 (by decide) (fun c39 => ?_) (fun c39 => ?_)
    · skip
      exact absurd rfl c39
    · skip
      
      refine mx_bipush (v := (-9)) (by decide) dX10_readStep_42 ?_
      refine mx_goto (tgt := 55) dX10_readStep_44 (by decide) ?_
      refine mx_istoreE_n (i := 3) (ls' := [some (.ref m), some (.int (nI (ch 1 - 48))), some (.int (-9)), some (.int (-9)), none, none]) (hi := rfl) (hd := dX10_readStep_55) (hn := by decide) (hok := rfl) (hls := rfl) ?_
      refine mx_iload_n (i := 3) (hi := rfl) (hl := rfl) (hd := dX10_readStep_56) ?_
      refine mx_bipush (v := (-9)) (by decide) dX10_readStep_57 ?_
      refine mx_icmp_ne (tgt := 67) dX10_readStep_59 (by decide) (fun c59 => ?_) (fun c59 => ?_)
      · skip
        exact absurd rfl c59
      · skip
        
        refine mx_bipush (v := (-9)) (by decide) dX10_readStep_62 ?_
        refine mx_goto (tgt := 79) dX10_readStep_64 (by decide) ?_
        refine mx_istoreE (i := 4) (ls' := [some (.ref m), some (.int (nI (ch 1 - 48))), some (.int (-9)), some (.int (-9)), some (.int (-9)), none]) (hd := dX10_readStep_79) (hn := by decide) (hok := rfl) (hls := rfl) ?_
        refine mx_iload (i := 4) (hl := rfl) (hd := dX10_readStep_81) ?_
        refine mx_bipush (v := (-9)) (by decide) dX10_readStep_83 ?_
        refine mx_icmp_eq (tgt := 122) dX10_readStep_85 (by decide) (fun c85 => ?_) (fun c85 => ?_)
        · skip
          
          refine mx_iload (i := 4) (hl := rfl) (hd := dX10_readStep_122) ?_
          refine mx_bipush (v := (-9)) (by decide) dX10_readStep_124 ?_
          refine mx_icmp_ne (tgt := 134) dX10_readStep_126 (by decide) (fun c126 => ?_) (fun c126 => ?_)
          · skip
            exact absurd rfl c126
          · skip
            
            refine mx_bipush (v := (-9)) (by decide) dX10_readStep_129 ?_
            refine mx_goto (tgt := 142) dX10_readStep_131 (by decide) ?_
            refine mx_istoreE (i := 5) (ls' := [some (.ref m), some (.int (nI (ch 1 - 48))), some (.int (-9)), some (.int (-9)), some (.int (-9)), some (.int (-9))]) (hd := dX10_readStep_142) (hn := by decide) (hok := rfl) (hls := rfl) ?_
            refine mx_iload (i := 5) (hl := rfl) (hd := dX10_readStep_144) ?_
            refine mx_if_ne (tgt := 159) dX10_readStep_146 (by decide) (fun c146 => ?_) (fun c146 => ?_)
            · skip
              
              refine mx_iload (i := 5) (hl := rfl) (hd := dX10_readStep_159) ?_
              refine mx_ifR_le 184 dX10_readStep_161 (by decide) (fun c161 => ?_) (fun c161 => ?_)
              · skip
                
                refine mx_iconstN 0 dX10_readStep_184 (by decide) ?_
                exact mx_iret dX10_readStep_185 rfl (by decide) (⟨rdQ.f (rs_1 hkn (fun q => (by have q9 := rc0.mp q; first | exact absurd q9.1 (by omega) | exact g27 ⟨by omega, by omega, by omega⟩))) ht (fun _ _ _ _ => rfl), rfl⟩)
              · skip
                exact absurd (show (-9 : Int32).toInt ≤ 0 by decide) c161
            · skip
              exact absurd c146 (by decide)
        · skip
          exact absurd rfl c85
  · skip
    have c15 : k < 24 := by omega
    refine mx_aload_n (i := 0) (hi := rfl) (hl := rfl) (hd := dX10_readStep_18) ?_
    refine mx_bipushN 48 dX10_readStep_19 (by decide) ?_
    refine mx_bipushN 48 dX10_readStep_21 (by decide) ?_
    refine mx_iload_n (i := 1) (hi := rfl) (hl := rfl) (hd := dX10_readStep_23) ?_
    refine mx_iaddN dX10_readStep_24 ?_
    refine mx_iconstN 1 dX10_readStep_25 (by decide) ?_
    refine mx_isubN dX10_readStep_26 (by omega) ?_
    by_cases g27 : sgU ch n (2 + 4 * k) (48) (48 + (ch 1 - 48) - 1)
    · skip
      refine mx_callVi (ci := 10) (As := [.int (nI 48), .int (nI ((48 + (ch 1 - 48)) - 1))]) (rest := []) dX10_readStep_27 (mt_signT G I m hs0 n (2 + 4 * k) ch ht (48) (48 + (ch 1 - 48) - 1) (by omega) (by omega) g27) km_X10_sign rfl k_1169 k_1171 k_37 (by assumption) rfl rfl (Nat.le_of_ble_eq_true rfl) (by decide) (fun r1 Ia h2 => ?_)
      obtain ⟨e9, er⟩ := h2
      subst e9
      have b27 : ch (2 + 4 * k) < 256 := hcb _ g27.1
      have hta : txS Ia m n (3 + 4 * k) ch := ht.u (fun b j q => by rw [er, mx_u_at, if_neg (by omega)]) (by rw [er, mx_u_at, if_pos ⟨rfl, rfl⟩]; exact congrArg nI (by omega)) (by omega)
      have FIa : ∀ b j, ¬ (b = m ∧ j = 3) → Ia b j = I b j := fun b j q => by rw [er, mx_u_at, if_neg q]
      clear er
      refine mx_goto (tgt := 35) dX10_readStep_30 (by decide) ?_
      refine mx_istoreE_n (i := 2) (ls' := [some (.ref m), some (.int (nI (ch 1 - 48))), some (.int (nI (ch (2 + 4 * k) - 48))), none, none, none]) (hi := rfl) (hd := dX10_readStep_35) (hn := by decide) (hok := rfl) (hls := rfl) ?_
      refine mx_iload_n (i := 2) (hi := rfl) (hl := rfl) (hd := dX10_readStep_36) ?_
      refine mx_bipush (v := (-9)) (by decide) dX10_readStep_37 ?_
      refine mx_icmp_ne (tgt := 47) dX10_readStep_39 (by decide) (fun c39 => ?_) (fun c39 => ?_)
      · skip
        
        refine mx_aload_n (i := 0) (hi := rfl) (hl := rfl) (hd := dX10_readStep_47) ?_
        refine mx_bipushN 97 dX10_readStep_48 (by decide) ?_
        refine mx_bipushN 100 dX10_readStep_50 (by decide) ?_
        by_cases g52 : sgU ch n (3 + 4 * k) (97) (100)
        · skip
          refine mx_callVi (ci := 10) (As := [.int (nI 97), .int (nI 100)]) (rest := []) dX10_readStep_52 (mt_signT G Ia m hs0 n (3 + 4 * k) ch hta (97) (100) (by omega) (by omega) g52) km_X10_sign rfl k_1169 k_1171 k_37 (by assumption) rfl rfl (Nat.le_of_ble_eq_true rfl) (by decide) (fun r3 Ib h4 => ?_)
          obtain ⟨e9, er⟩ := h4
          subst e9
          have b52 : ch (3 + 4 * k) < 256 := hcb _ g52.1
          have htb : txS Ib m n (4 + 4 * k) ch := hta.u (fun b j q => by rw [er, mx_u_at, if_neg (by omega)]) (by rw [er, mx_u_at, if_pos ⟨rfl, rfl⟩]; exact congrArg nI (by omega)) (by omega)
          have FIb : ∀ b j, ¬ (b = m ∧ j = 3) → Ib b j = I b j := fun b j q => by rw [er, mx_u_at, if_neg q]; exact FIa b j q
          clear er
          refine mx_istoreE_n (i := 3) (ls' := [some (.ref m), some (.int (nI (ch 1 - 48))), some (.int (nI (ch (2 + 4 * k) - 48))), some (.int (nI (ch (3 + 4 * k) - 97))), none, none]) (hi := rfl) (hd := dX10_readStep_55) (hn := by decide) (hok := rfl) (hls := rfl) ?_
          refine mx_iload_n (i := 3) (hi := rfl) (hl := rfl) (hd := dX10_readStep_56) ?_
          refine mx_bipush (v := (-9)) (by decide) dX10_readStep_57 ?_
          refine mx_icmp_ne (tgt := 67) dX10_readStep_59 (by decide) (fun c59 => ?_) (fun c59 => ?_)
          · skip
            
            refine mx_aload_n (i := 0) (hi := rfl) (hl := rfl) (hd := dX10_readStep_67) ?_
            refine mx_bipushN 48 dX10_readStep_68 (by decide) ?_
            refine mx_bipushN 48 dX10_readStep_70 (by decide) ?_
            refine mx_iload_n (i := 1) (hi := rfl) (hl := rfl) (hd := dX10_readStep_72) ?_
            refine mx_iaddN dX10_readStep_73 ?_
            refine mx_iconstN 1 dX10_readStep_74 (by decide) ?_
            refine mx_isubN dX10_readStep_75 (by omega) ?_
            by_cases g76 : sgU ch n (4 + 4 * k) (48) (48 + (ch 1 - 48) - 1)
            · skip
              refine mx_callVi (ci := 10) (As := [.int (nI 48), .int (nI ((48 + (ch 1 - 48)) - 1))]) (rest := []) dX10_readStep_76 (mt_signT G Ib m hs0 n (4 + 4 * k) ch htb (48) (48 + (ch 1 - 48) - 1) (by omega) (by omega) g76) km_X10_sign rfl k_1169 k_1171 k_37 (by assumption) rfl rfl (Nat.le_of_ble_eq_true rfl) (by decide) (fun r5 Ic h6 => ?_)
              obtain ⟨e9, er⟩ := h6
              subst e9
              have b76 : ch (4 + 4 * k) < 256 := hcb _ g76.1
              have htc : txS Ic m n (5 + 4 * k) ch := htb.u (fun b j q => by rw [er, mx_u_at, if_neg (by omega)]) (by rw [er, mx_u_at, if_pos ⟨rfl, rfl⟩]; exact congrArg nI (by omega)) (by omega)
              have FIc : ∀ b j, ¬ (b = m ∧ j = 3) → Ic b j = I b j := fun b j q => by rw [er, mx_u_at, if_neg q]; exact FIb b j q
              clear er
              refine mx_istoreE (i := 4) (ls' := [some (.ref m), some (.int (nI (ch 1 - 48))), some (.int (nI (ch (2 + 4 * k) - 48))), some (.int (nI (ch (3 + 4 * k) - 97))), some (.int (nI (ch (4 + 4 * k) - 48))), none]) (hd := dX10_readStep_79) (hn := by decide) (hok := rfl) (hls := rfl) ?_
              refine mx_iload (i := 4) (hl := rfl) (hd := dX10_readStep_81) ?_
              refine mx_bipush (v := (-9)) (by decide) dX10_readStep_83 ?_
              refine mx_icmp_eq (tgt := 122) dX10_readStep_85 (by decide) (fun c85 => ?_) (fun c85 => ?_)
              · skip
                exact absurd c85 (nI_ne9 (by omega))
              · skip
                
                refine mx_iload (i := 4) (hl := rfl) (hd := dX10_readStep_88) ?_
                refine mx_iload_n (i := 2) (hi := rfl) (hl := rfl) (hd := dX10_readStep_90) ?_
                refine mx_cmpN_eq 110 dX10_readStep_91 (by decide) (by omega) (by omega) (fun c91 => ?_) (fun c91 => ?_)
                · skip
                  refine mx_aload_n (i := 0) (hi := rfl) (hl := rfl) (hd := dX10_readStep_110) ?_
                  refine mx_dup (hva := rfl) (hd := dX10_readStep_111) ?_
                  refine mx_getV (ci := 10) (k := 3) (nI (5 + 4 * k)) dX10_readStep_112 k_1016 (by decide) rfl (by assumption) htc.2.2.2.2.1 ?_
                  refine mx_iconstN 1 dX10_readStep_115 (by decide) ?_
                  refine mx_isubN dX10_readStep_116 (by omega) ?_
                  refine mx_putI (ci := 10) (k := 3) dX10_readStep_117 k_1016 (by decide) rfl rfl rfl rfl (by assumption) ?_
                  refine mx_iconstN 0 dX10_readStep_120 (by decide) ?_
                  exact mx_iret dX10_readStep_121 rfl (by decide) (⟨rdQ.f (rs_3 g52.1 (rc0.mpr ⟨c15, by omega, by omega⟩) (rc1.mpr ⟨c15, g52.2⟩) (fun _ q => (by have q9 := rc2.mp q; first | exact q9.2.2.2.1 c91 | exact c107 ((gIx_iff (by show k ≤ 25; omega)).mpr q9.2.2.2.2)))) (htc.u (fun b j q => by rw [mx_u_at, if_neg (by omega)]) (by rw [mx_u_at, if_pos ⟨rfl, rfl⟩]; exact congrArg nI (by omega)) (by omega)) (fun b j q _ => by rw [mx_u_at, if_neg q]; exact FIc b j q), rfl⟩)
                · skip
                  refine mx_aload_n (i := 0) (hi := rfl) (hl := rfl) (hd := dX10_readStep_94) ?_
                  refine mx_getR (ci := 10) (k := 4) (r := (m + 2)) dX10_readStep_95 k_1017 (by decide) rfl (by assumption) (by assumption) (by omega) ?_
                  refine mx_iload_n (i := 2) (hi := rfl) (hl := rfl) (hd := dX10_readStep_98) ?_
                  refine mx_iload_n (i := 3) (hi := rfl) (hl := rfl) (hd := dX10_readStep_99) ?_
                  refine mx_iload (i := 4) (hl := rfl) (hd := dX10_readStep_100) ?_
                  refine mx_callSp (As := [.ref (m + 2), .int (nI (ch (2 + 4 * k) - 48)), .int (nI (ch (3 + 4 * k) - 97)), .int (nI (ch (4 + 4 * k) - 48))]) (rest := []) dX10_readStep_102 (mt_found G Ic (m + 2) (gtx ch k) t_read l_read (hg.c (by show k ≤ 25; omega) (fun k9 _ => FIc _ _ (by omega))) (ch (2 + 4 * k) - 48) (ch (3 + 4 * k) - 97) (ch (4 + 4 * k) - 48) (by omega) (by omega) (by omega)) km_X10_found rfl k_1177 k_1178 rfl rfl (Nat.le_of_ble_eq_true rfl) (by decide) ?_
                  refine mx_bipush (v := (-9)) (by decide) dX10_readStep_105 ?_
                  refine mx_icmp_eq (tgt := 122) dX10_readStep_107 (by decide) (fun c107 => ?_) (fun c107 => ?_)
                  · skip
                    refine mx_iload (i := 4) (hl := rfl) (hd := dX10_readStep_122) ?_
                    refine mx_bipush (v := (-9)) (by decide) dX10_readStep_124 ?_
                    refine mx_icmp_ne (tgt := 134) dX10_readStep_126 (by decide) (fun c126 => ?_) (fun c126 => ?_)
                    · skip
                      
                      refine mx_aload_n (i := 0) (hi := rfl) (hl := rfl) (hd := dX10_readStep_134) ?_
                      refine mx_bipushN 48 dX10_readStep_135 (by decide) ?_
                      refine mx_bipushN 57 dX10_readStep_137 (by decide) ?_
                      by_cases g139 : sgU ch n (5 + 4 * k) (48) (57)
                      · skip
                        refine mx_callVi (ci := 10) (As := [.int (nI 48), .int (nI 57)]) (rest := []) dX10_readStep_139 (mt_signT G Ic m hs0 n (5 + 4 * k) ch htc (48) (57) (by omega) (by omega) g139) km_X10_sign rfl k_1169 k_1171 k_37 (by assumption) rfl rfl (Nat.le_of_ble_eq_true rfl) (by decide) (fun r7 Id h8 => ?_)
                        obtain ⟨e9, er⟩ := h8
                        subst e9
                        have b139 : ch (5 + 4 * k) < 256 := hcb _ g139.1
                        have htd : txS Id m n (6 + 4 * k) ch := htc.u (fun b j q => by rw [er, mx_u_at, if_neg (by omega)]) (by rw [er, mx_u_at, if_pos ⟨rfl, rfl⟩]; exact congrArg nI (by omega)) (by omega)
                        have FId : ∀ b j, ¬ (b = m ∧ j = 3) → Id b j = I b j := fun b j q => by rw [er, mx_u_at, if_neg q]; exact FIc b j q
                        clear er
                        refine mx_istoreE (i := 5) (ls' := [some (.ref m), some (.int (nI (ch 1 - 48))), some (.int (nI (ch (2 + 4 * k) - 48))), some (.int (nI (ch (3 + 4 * k) - 97))), some (.int (nI (ch (4 + 4 * k) - 48))), some (.int (nI (ch (5 + 4 * k) - 48)))]) (hd := dX10_readStep_142) (hn := by decide) (hok := rfl) (hls := rfl) ?_
                        refine mx_iload (i := 5) (hl := rfl) (hd := dX10_readStep_144) ?_
                        refine mx_ifN_ne 159 dX10_readStep_146 (by decide) (by omega) (fun c146 => ?_) (fun c146 => ?_)
                        · skip
                          
                          refine mx_iload (i := 5) (hl := rfl) (hd := dX10_readStep_159) ?_
                          refine mx_ifN_le 184 dX10_readStep_161 (by decide) (by omega) (fun c161 => ?_) (fun c161 => ?_)
                          · skip
                            exact absurd c161 (by omega)
                          · skip
                            
                            refine mx_aload_n (i := 0) (hi := rfl) (hl := rfl) (hd := dX10_readStep_164) ?_
                            refine mx_getR (ci := 10) (k := 4) (r := (m + 2)) dX10_readStep_165 k_1017 (by decide) rfl (by assumption) (by assumption) (by omega) ?_
                            refine mx_iload_n (i := 2) (hi := rfl) (hl := rfl) (hd := dX10_readStep_168) ?_
                            refine mx_iload_n (i := 3) (hi := rfl) (hl := rfl) (hd := dX10_readStep_169) ?_
                            refine mx_iload (i := 4) (hl := rfl) (hd := dX10_readStep_170) ?_
                            refine mx_iload (i := 5) (hl := rfl) (hd := dX10_readStep_172) ?_
                            refine mx_callSi (As := [.ref (m + 2), .int (nI (ch (2 + 4 * k) - 48)), .int (nI (ch (3 + 4 * k) - 97)), .int (nI (ch (4 + 4 * k) - 48)), .int (nI (ch (5 + 4 * k) - 48))]) (rest := []) dX10_readStep_174 (mt_add G Id (m + 2) (gtx ch k) t_read l_read (hg.c (by show k ≤ 25; omega) (fun k9 _ => FId _ _ (by omega))) (ch (2 + 4 * k) - 48) (ch (3 + 4 * k) - 97) (ch (4 + 4 * k) - 48) (ch (5 + 4 * k) - 48) (by omega) (by omega) (by omega) (by omega) hk) km_X10_add rfl k_1183 k_1184 rfl rfl (Nat.le_of_ble_eq_true rfl) (by decide) (fun r9 Ie h10 => ?_)
                            obtain ⟨e9, n1, n2, n3⟩ := h10
                            subst e9
                            have n3b : ∀ b j, b ≠ m + 2 → Ie b j = Id b j := fun b j q => by rw [n3 b (by omega)]
                            have hst : stB ch n k := ⟨by have := g139.1; omega, (rc0.mpr ⟨c15, by omega, by omega⟩), (rc1.mpr ⟨c15, g52.2⟩), rc2.mpr ⟨c15, by omega, by omega, c91, (gIx_iff (by show k ≤ 25; omega)).mp c107⟩, rc3.mpr ⟨c15, by omega, by omega⟩⟩
                            refine mx_ifN_lt 184 dX10_readStep_177 (by decide) ((by show k < 2 ^ 31; omega)) (fun c177 => ?_) (fun c177 => ?_)
                            · skip
                              exact absurd c177 (Nat.not_lt_zero _)
                            · skip
                              refine mx_iconstN 1 dX10_readStep_180 (by decide) ?_
                              refine mx_goto (tgt := 185) dX10_readStep_181 (by decide) ?_
                              exact mx_iret dX10_readStep_185 rfl (by decide) (⟨⟨congrArg (fun z => some (Value.int z)) (mx_bT (stV_iff.mpr hst)), fun b j q1 q2 => (n3b b j q2).trans (FId b j q1), fun _ => ⟨htd.u (fun b j q => n3b b j (by omega)) ((n3b m 3 (by omega)).trans htd.2.2.2.2.1) htd.2.2.2.2.2, by rw [← gtx_s]; exact n1, fun k9 hk9 => (n2 k9 hk9).trans (FId _ _ (by omega))⟩, fun q => absurd hst q⟩, rfl⟩)
                        · skip
                          
                          refine mx_aload_n (i := 0) (hi := rfl) (hl := rfl) (hd := dX10_readStep_149) ?_
                          refine mx_dup (hva := rfl) (hd := dX10_readStep_150) ?_
                          refine mx_getV (ci := 10) (k := 3) (nI (6 + 4 * k)) dX10_readStep_151 k_1016 (by decide) rfl (by assumption) htd.2.2.2.2.1 ?_
                          refine mx_iconstN 1 dX10_readStep_154 (by decide) ?_
                          refine mx_isubN dX10_readStep_155 (by omega) ?_
                          refine mx_putI (ci := 10) (k := 3) dX10_readStep_156 k_1016 (by decide) rfl rfl rfl rfl (by assumption) ?_
                          refine mx_iload (i := 5) (hl := rfl) (hd := dX10_readStep_159) ?_
                          refine mx_ifN_le 184 dX10_readStep_161 (by decide) (by omega) (fun c161 => ?_) (fun c161 => ?_)
                          · skip
                            
                            refine mx_iconstN 0 dX10_readStep_184 (by decide) ?_
                            exact mx_iret dX10_readStep_185 rfl (by decide) (⟨rdQ.f (rs_4 g76.1 (rc0.mpr ⟨c15, by omega, by omega⟩) (rc1.mpr ⟨c15, g52.2⟩) (rc2.mpr ⟨c15, by omega, by omega, c91, (gIx_iff (by show k ≤ 25; omega)).mp c107⟩) (fun q3 q => (by have q9 := rc3.mp q; omega))) (htd.u (fun b j q => by rw [mx_u_at, if_neg (by omega)]) (by rw [mx_u_at, if_pos ⟨rfl, rfl⟩]; exact congrArg nI (by omega)) (by omega)) (fun b j q _ => by rw [mx_u_at, if_neg q]; exact FId b j q), rfl⟩)
                          · skip
                            exact absurd c161 (by omega)
                      · skip
                        refine mx_callVp (ci := 10) (As := [.int (nI 48), .int (nI 57)]) (rest := []) dX10_readStep_139 (mt_signF G Ic m hs0 n (5 + 4 * k) ch htc (48) (57) (by omega) (by omega) g139) km_X10_sign rfl k_1169 k_1171 k_37 (by assumption) rfl rfl (Nat.le_of_ble_eq_true rfl) (by decide) ?_
                        refine mx_istoreE (i := 5) (ls' := [some (.ref m), some (.int (nI (ch 1 - 48))), some (.int (nI (ch (2 + 4 * k) - 48))), some (.int (nI (ch (3 + 4 * k) - 97))), some (.int (nI (ch (4 + 4 * k) - 48))), some (.int (-9))]) (hd := dX10_readStep_142) (hn := by decide) (hok := rfl) (hls := rfl) ?_
                        refine mx_iload (i := 5) (hl := rfl) (hd := dX10_readStep_144) ?_
                        refine mx_if_ne (tgt := 159) dX10_readStep_146 (by decide) (fun c146 => ?_) (fun c146 => ?_)
                        · skip
                          
                          refine mx_iload (i := 5) (hl := rfl) (hd := dX10_readStep_159) ?_
                          refine mx_ifR_le 184 dX10_readStep_161 (by decide) (fun c161 => ?_) (fun c161 => ?_)
                          · skip
                            
                            refine mx_iconstN 0 dX10_readStep_184 (by decide) ?_
                            exact mx_iret dX10_readStep_185 rfl (by decide) (⟨rdQ.f (rs_4 g76.1 (rc0.mpr ⟨c15, by omega, by omega⟩) (rc1.mpr ⟨c15, g52.2⟩) (rc2.mpr ⟨c15, by omega, by omega, c91, (gIx_iff (by show k ≤ 25; omega)).mp c107⟩) (fun q3 q => (by have q9 := rc3.mp q; exact g139 ⟨q3, by omega, by omega⟩))) htc (fun b j q _ => FIc b j q), rfl⟩)
                          · skip
                            exact absurd (show (-9 : Int32).toInt ≤ 0 by decide) c161
                        · skip
                          exact absurd c146 (by decide)
                    · skip
                      exact absurd c126 (nI_ne9 (by omega))
                  · skip
                    refine mx_aload_n (i := 0) (hi := rfl) (hl := rfl) (hd := dX10_readStep_110) ?_
                    refine mx_dup (hva := rfl) (hd := dX10_readStep_111) ?_
                    refine mx_getV (ci := 10) (k := 3) (nI (5 + 4 * k)) dX10_readStep_112 k_1016 (by decide) rfl (by assumption) htc.2.2.2.2.1 ?_
                    refine mx_iconstN 1 dX10_readStep_115 (by decide) ?_
                    refine mx_isubN dX10_readStep_116 (by omega) ?_
                    refine mx_putI (ci := 10) (k := 3) dX10_readStep_117 k_1016 (by decide) rfl rfl rfl rfl (by assumption) ?_
                    refine mx_iconstN 0 dX10_readStep_120 (by decide) ?_
                    exact mx_iret dX10_readStep_121 rfl (by decide) (⟨rdQ.f (rs_3 g52.1 (rc0.mpr ⟨c15, by omega, by omega⟩) (rc1.mpr ⟨c15, g52.2⟩) (fun _ q => (by have q9 := rc2.mp q; first | exact q9.2.2.2.1 c91 | exact c107 ((gIx_iff (by show k ≤ 25; omega)).mpr q9.2.2.2.2)))) (htc.u (fun b j q => by rw [mx_u_at, if_neg (by omega)]) (by rw [mx_u_at, if_pos ⟨rfl, rfl⟩]; exact congrArg nI (by omega)) (by omega)) (fun b j q _ => by rw [mx_u_at, if_neg q]; exact FIc b j q), rfl⟩)
            · skip
              refine mx_callVp (ci := 10) (As := [.int (nI 48), .int (nI ((48 + (ch 1 - 48)) - 1))]) (rest := []) dX10_readStep_76 (mt_signF G Ib m hs0 n (4 + 4 * k) ch htb (48) (48 + (ch 1 - 48) - 1) (by omega) (by omega) g76) km_X10_sign rfl k_1169 k_1171 k_37 (by assumption) rfl rfl (Nat.le_of_ble_eq_true rfl) (by decide) ?_
              refine mx_istoreE (i := 4) (ls' := [some (.ref m), some (.int (nI (ch 1 - 48))), some (.int (nI (ch (2 + 4 * k) - 48))), some (.int (nI (ch (3 + 4 * k) - 97))), some (.int (-9)), none]) (hd := dX10_readStep_79) (hn := by decide) (hok := rfl) (hls := rfl) ?_
              refine mx_iload (i := 4) (hl := rfl) (hd := dX10_readStep_81) ?_
              refine mx_bipush (v := (-9)) (by decide) dX10_readStep_83 ?_
              refine mx_icmp_eq (tgt := 122) dX10_readStep_85 (by decide) (fun c85 => ?_) (fun c85 => ?_)
              · skip
                
                refine mx_iload (i := 4) (hl := rfl) (hd := dX10_readStep_122) ?_
                refine mx_bipush (v := (-9)) (by decide) dX10_readStep_124 ?_
                refine mx_icmp_ne (tgt := 134) dX10_readStep_126 (by decide) (fun c126 => ?_) (fun c126 => ?_)
                · skip
                  exact absurd rfl c126
                · skip
                  
                  refine mx_bipush (v := (-9)) (by decide) dX10_readStep_129 ?_
                  refine mx_goto (tgt := 142) dX10_readStep_131 (by decide) ?_
                  refine mx_istoreE (i := 5) (ls' := [some (.ref m), some (.int (nI (ch 1 - 48))), some (.int (nI (ch (2 + 4 * k) - 48))), some (.int (nI (ch (3 + 4 * k) - 97))), some (.int (-9)), some (.int (-9))]) (hd := dX10_readStep_142) (hn := by decide) (hok := rfl) (hls := rfl) ?_
                  refine mx_iload (i := 5) (hl := rfl) (hd := dX10_readStep_144) ?_
                  refine mx_if_ne (tgt := 159) dX10_readStep_146 (by decide) (fun c146 => ?_) (fun c146 => ?_)
                  · skip
                    
                    refine mx_iload (i := 5) (hl := rfl) (hd := dX10_readStep_159) ?_
                    refine mx_ifR_le 184 dX10_readStep_161 (by decide) (fun c161 => ?_) (fun c161 => ?_)
                    · skip
                      
                      refine mx_iconstN 0 dX10_readStep_184 (by decide) ?_
                      exact mx_iret dX10_readStep_185 rfl (by decide) (⟨rdQ.f (rs_3 g52.1 (rc0.mpr ⟨c15, by omega, by omega⟩) (rc1.mpr ⟨c15, g52.2⟩) (fun q3 q => (by have q9 := rc2.mp q; exact g76 ⟨q3, by omega, by omega⟩))) htb (fun b j q _ => FIb b j q), rfl⟩)
                    · skip
                      exact absurd (show (-9 : Int32).toInt ≤ 0 by decide) c161
                  · skip
                    exact absurd c146 (by decide)
              · skip
                exact absurd rfl c85
          · skip
            exact absurd c59 (nI_ne9 (by omega))
        · skip
          refine mx_callVp (ci := 10) (As := [.int (nI 97), .int (nI 100)]) (rest := []) dX10_readStep_52 (mt_signF G Ia m hs0 n (3 + 4 * k) ch hta (97) (100) (by omega) (by omega) g52) km_X10_sign rfl k_1169 k_1171 k_37 (by assumption) rfl rfl (Nat.le_of_ble_eq_true rfl) (by decide) ?_
          refine mx_istoreE_n (i := 3) (ls' := [some (.ref m), some (.int (nI (ch 1 - 48))), some (.int (nI (ch (2 + 4 * k) - 48))), some (.int (-9)), none, none]) (hi := rfl) (hd := dX10_readStep_55) (hn := by decide) (hok := rfl) (hls := rfl) ?_
          refine mx_iload_n (i := 3) (hi := rfl) (hl := rfl) (hd := dX10_readStep_56) ?_
          refine mx_bipush (v := (-9)) (by decide) dX10_readStep_57 ?_
          refine mx_icmp_ne (tgt := 67) dX10_readStep_59 (by decide) (fun c59 => ?_) (fun c59 => ?_)
          · skip
            exact absurd rfl c59
          · skip
            
            refine mx_bipush (v := (-9)) (by decide) dX10_readStep_62 ?_
            refine mx_goto (tgt := 79) dX10_readStep_64 (by decide) ?_
            refine mx_istoreE (i := 4) (ls' := [some (.ref m), some (.int (nI (ch 1 - 48))), some (.int (nI (ch (2 + 4 * k) - 48))), some (.int (-9)), some (.int (-9)), none]) (hd := dX10_readStep_79) (hn := by decide) (hok := rfl) (hls := rfl) ?_
            refine mx_iload (i := 4) (hl := rfl) (hd := dX10_readStep_81) ?_
            refine mx_bipush (v := (-9)) (by decide) dX10_readStep_83 ?_
            refine mx_icmp_eq (tgt := 122) dX10_readStep_85 (by decide) (fun c85 => ?_) (fun c85 => ?_)
            · skip
              
              refine mx_iload (i := 4) (hl := rfl) (hd := dX10_readStep_122) ?_
              refine mx_bipush (v := (-9)) (by decide) dX10_readStep_124 ?_
              refine mx_icmp_ne (tgt := 134) dX10_readStep_126 (by decide) (fun c126 => ?_) (fun c126 => ?_)
              · skip
                exact absurd rfl c126
              · skip
                
                refine mx_bipush (v := (-9)) (by decide) dX10_readStep_129 ?_
                refine mx_goto (tgt := 142) dX10_readStep_131 (by decide) ?_
                refine mx_istoreE (i := 5) (ls' := [some (.ref m), some (.int (nI (ch 1 - 48))), some (.int (nI (ch (2 + 4 * k) - 48))), some (.int (-9)), some (.int (-9)), some (.int (-9))]) (hd := dX10_readStep_142) (hn := by decide) (hok := rfl) (hls := rfl) ?_
                refine mx_iload (i := 5) (hl := rfl) (hd := dX10_readStep_144) ?_
                refine mx_if_ne (tgt := 159) dX10_readStep_146 (by decide) (fun c146 => ?_) (fun c146 => ?_)
                · skip
                  
                  refine mx_iload (i := 5) (hl := rfl) (hd := dX10_readStep_159) ?_
                  refine mx_ifR_le 184 dX10_readStep_161 (by decide) (fun c161 => ?_) (fun c161 => ?_)
                  · skip
                    
                    refine mx_iconstN 0 dX10_readStep_184 (by decide) ?_
                    exact mx_iret dX10_readStep_185 rfl (by decide) (⟨rdQ.f (rs_2 hkn (rc0.mpr ⟨c15, by omega, by omega⟩) (fun q3 q => g52 ⟨q3, (rc1.mp q).2⟩)) hta (fun b j q _ => FIa b j q), rfl⟩)
                  · skip
                    exact absurd (show (-9 : Int32).toInt ≤ 0 by decide) c161
                · skip
                  exact absurd c146 (by decide)
            · skip
              exact absurd rfl c85
      · skip
        exact absurd c39 (nI_ne9 (by omega))
    · skip
      refine mx_callVp (ci := 10) (As := [.int (nI 48), .int (nI ((48 + (ch 1 - 48)) - 1))]) (rest := []) dX10_readStep_27 (mt_signF G I m hs0 n (2 + 4 * k) ch ht (48) (48 + (ch 1 - 48) - 1) (by omega) (by omega) g27) km_X10_sign rfl k_1169 k_1171 k_37 (by assumption) rfl rfl (Nat.le_of_ble_eq_true rfl) (by decide) ?_
      refine mx_goto (tgt := 35) dX10_readStep_30 (by decide) ?_
      refine mx_istoreE_n (i := 2) (ls' := [some (.ref m), some (.int (nI (ch 1 - 48))), some (.int (-9)), none, none, none]) (hi := rfl) (hd := dX10_readStep_35) (hn := by decide) (hok := rfl) (hls := rfl) ?_
      refine mx_iload_n (i := 2) (hi := rfl) (hl := rfl) (hd := dX10_readStep_36) ?_
      refine mx_bipush (v := (-9)) (by decide) dX10_readStep_37 ?_
      refine mx_icmp_ne (tgt := 47) dX10_readStep_39 (by decide) (fun c39 => ?_) (fun c39 => ?_)
      · skip
        exact absurd rfl c39
      · skip
        
        refine mx_bipush (v := (-9)) (by decide) dX10_readStep_42 ?_
        refine mx_goto (tgt := 55) dX10_readStep_44 (by decide) ?_
        refine mx_istoreE_n (i := 3) (ls' := [some (.ref m), some (.int (nI (ch 1 - 48))), some (.int (-9)), some (.int (-9)), none, none]) (hi := rfl) (hd := dX10_readStep_55) (hn := by decide) (hok := rfl) (hls := rfl) ?_
        refine mx_iload_n (i := 3) (hi := rfl) (hl := rfl) (hd := dX10_readStep_56) ?_
        refine mx_bipush (v := (-9)) (by decide) dX10_readStep_57 ?_
        refine mx_icmp_ne (tgt := 67) dX10_readStep_59 (by decide) (fun c59 => ?_) (fun c59 => ?_)
        · skip
          exact absurd rfl c59
        · skip
          
          refine mx_bipush (v := (-9)) (by decide) dX10_readStep_62 ?_
          refine mx_goto (tgt := 79) dX10_readStep_64 (by decide) ?_
          refine mx_istoreE (i := 4) (ls' := [some (.ref m), some (.int (nI (ch 1 - 48))), some (.int (-9)), some (.int (-9)), some (.int (-9)), none]) (hd := dX10_readStep_79) (hn := by decide) (hok := rfl) (hls := rfl) ?_
          refine mx_iload (i := 4) (hl := rfl) (hd := dX10_readStep_81) ?_
          refine mx_bipush (v := (-9)) (by decide) dX10_readStep_83 ?_
          refine mx_icmp_eq (tgt := 122) dX10_readStep_85 (by decide) (fun c85 => ?_) (fun c85 => ?_)
          · skip
            
            refine mx_iload (i := 4) (hl := rfl) (hd := dX10_readStep_122) ?_
            refine mx_bipush (v := (-9)) (by decide) dX10_readStep_124 ?_
            refine mx_icmp_ne (tgt := 134) dX10_readStep_126 (by decide) (fun c126 => ?_) (fun c126 => ?_)
            · skip
              exact absurd rfl c126
            · skip
              
              refine mx_bipush (v := (-9)) (by decide) dX10_readStep_129 ?_
              refine mx_goto (tgt := 142) dX10_readStep_131 (by decide) ?_
              refine mx_istoreE (i := 5) (ls' := [some (.ref m), some (.int (nI (ch 1 - 48))), some (.int (-9)), some (.int (-9)), some (.int (-9)), some (.int (-9))]) (hd := dX10_readStep_142) (hn := by decide) (hok := rfl) (hls := rfl) ?_
              refine mx_iload (i := 5) (hl := rfl) (hd := dX10_readStep_144) ?_
              refine mx_if_ne (tgt := 159) dX10_readStep_146 (by decide) (fun c146 => ?_) (fun c146 => ?_)
              · skip
                
                refine mx_iload (i := 5) (hl := rfl) (hd := dX10_readStep_159) ?_
                refine mx_ifR_le 184 dX10_readStep_161 (by decide) (fun c161 => ?_) (fun c161 => ?_)
                · skip
                  
                  refine mx_iconstN 0 dX10_readStep_184 (by decide) ?_
                  exact mx_iret dX10_readStep_185 rfl (by decide) (⟨rdQ.f (rs_1 hkn (fun q => (by have q9 := rc0.mp q; first | exact absurd q9.1 (by omega) | exact g27 ⟨by omega, by omega, by omega⟩))) ht (fun _ _ _ _ => rfl), rfl⟩)
                · skip
                  exact absurd (show (-9 : Int32).toInt ≤ 0 by decide) c161
              · skip
                exact absurd c146 (by decide)
          · skip
            exact absurd rfl c85
