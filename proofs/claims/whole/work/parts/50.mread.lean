/-! THE REFERENCE: reads a graph -/
abbrev sgU (ch : Nat → Nat) (n s lo hi : Nat) : Prop := s < n ∧ lo ≤ ch s ∧ ch s ≤ hi
theorem nI_ne9 {n : Nat} (h : n < 2 ^ 31) : ¬ nI n = -9 := fun q => by
  have h1 := congrArg Int32.toInt q
  rw [nI_toInt h] at h1
  have h2 : (-9 : Int32).toInt = -9 := by decide
  omega
/-- the text and the spot -/
def txS (I : mx_I) (m n s : Nat) (ch : Nat → Nat) : Prop := I m 2 = nI n ∧ n ≤ 110 ∧ (∀ i, i < n → I (m + 1) i = nI (ch i)) ∧ (∀ i, i < n → ch i < 256) ∧ I m 3 = nI s ∧ s ≤ n
theorem txS.u {I I1 : mx_I} {m n s s' : Nat} {ch : Nat → Nat} (h : txS I m n s ch) (e : ∀ b j, ((b = m ∧ j = 2) ∨ b = m + 1) → I1 b j = I b j) (e3 : I1 m 3 = nI s') (hs : s' ≤ n) : txS I1 m n s' ch := ⟨(e _ _ (by omega)).trans h.1, h.2.1, fun i hi => (e _ _ (by omega)).trans (h.2.2.1 i hi), h.2.2.2.1, e3, hs⟩

theorem mt_in9 (G : mx_G) (I : mx_I) (lo hi : Nat) (hlo : lo < 1000) (hhi : hi < 1000) : mx_CTp yX10_in mX10_in 1 [.long (-9 : Int32).toInt64, .long (nI lo).toInt64, .long (nI hi).toInt64] G I (some (.int (mx_b (decide False)))) :=
  (mt_in G I (-9 : Int32).toInt64 (nI lo).toInt64 (nI hi).toInt64).eq rfl (congrArg (fun x => some (Value.int (mx_b x))) (decide_eq_decide.mpr (by
    rw [Int32.toInt_toInt64, Int32.toInt_toInt64, Int32.toInt_toInt64, nI_toInt (n := lo) (by omega), nI_toInt (n := hi) (by omega)]
    have h2 : (-9 : Int32).toInt = -9 := by decide
    exact ⟨fun q => by omega, False.elim⟩)))
theorem mt_inN (G : mx_G) (I : mx_I) (v lo hi : Nat) (h1 : v < 2 ^ 31) (h2 : lo < 2 ^ 31) (h3 : hi < 2 ^ 31) : mx_CTp yX10_in mX10_in 1 [.long (nI v).toInt64, .long (nI lo).toInt64, .long (nI hi).toInt64] G I (some (.int (mx_b (decide (lo ≤ v ∧ v ≤ hi))))) :=
  (mt_in G I (nI v).toInt64 (nI lo).toInt64 (nI hi).toInt64).eq rfl (congrArg (fun x => some (Value.int (mx_b x))) (decide_eq_decide.mpr (by
    rw [Int32.toInt_toInt64, Int32.toInt_toInt64, Int32.toInt_toInt64, nI_toInt h1, nI_toInt h2, nI_toInt h3]
    omega)))

set_option maxHeartbeats 4000000 in
set_option maxRecDepth 100000 in
theorem mt_signT (G : mx_G) (I : mx_I) (m : Nat) (hs : oMD G m) (n s : Nat) (ch : Nat → Nat) (ht : txS I m n s ch) (lo hi : Nat) (hlo : lo < 1000) (hhi : hi < 1000) (hg : sgU ch n s lo hi) : mx_CTi yX10_sign mX10_sign 2 [.ref m, .int (nI lo), .int (nI hi)] G I (fun rv I1 => rv = some (.int (nI (ch s - lo))) ∧ I1 = mx_u I m 3 (nI (s + 1))) := by
  refine mx_start (k := 1) (by decide) rfl rfl (fun h => nomatch h) (Nat.le_of_ble_eq_true rfl) ?_
  show mx_V mX10_sign mx_S0 2 0 0 0 [some (.ref m), some (.int (nI lo)), some (.int (nI hi)), none] [] G I (fun rv Gz Iz => (fun rv I1 => rv = some (.int (nI (ch s - lo))) ∧ I1 = mx_u I m 3 (nI (s + 1))) rv Iz ∧ Gz = G) (fun _ _ _ => False)
  have hs0 := hs
  obtain ⟨tgm, ⟨r_text, t_text, l_text⟩, -⟩ := hs
  obtain ⟨h2, hn110, htx, htc, h3, hsn⟩ := ht
  have hcs := htc s hg.1
  refine mx_aload_n (i := 0) (hi := rfl) (hl := rfl) (hd := dX10_sign_0) ?_
  refine mx_getV (ci := 10) (k := 3) (nI s) dX10_sign_1 k_1012 (by decide) rfl (by assumption) h3 ?_
  refine mx_aload_n (i := 0) (hi := rfl) (hl := rfl) (hd := dX10_sign_4) ?_
  refine mx_getV (ci := 10) (k := 2) (nI n) dX10_sign_5 k_1011 (by decide) rfl (by assumption) h2 ?_
  refine mx_cmpN_ge 23 dX10_sign_8 (by decide) (by omega) (by omega) (fun c8 => ?_) (fun c8 => ?_)
  · skip
    exact absurd hg.1 (by omega)
  · skip
    refine mx_aload_n (i := 0) (hi := rfl) (hl := rfl) (hd := dX10_sign_11) ?_
    refine mx_getR (ci := 10) (k := 1) (r := (m + 1)) dX10_sign_12 k_1010 (by decide) rfl (by assumption) (by assumption) (by omega) ?_
    refine mx_aload_n (i := 0) (hi := rfl) (hl := rfl) (hd := dX10_sign_15) ?_
    refine mx_getV (ci := 10) (k := 3) (nI s) dX10_sign_16 k_1012 (by decide) rfl (by assumption) h3 ?_
    refine mx_ialdV s (nI (ch s)) dX10_sign_19 (by assumption) ⟨rfl, by omega, by omega⟩ (htx s (by omega)) ?_
    refine mx_goto (tgt := 25) dX10_sign_20 (by decide) ?_
    refine mx_istoreE_n (i := 3) (ls' := [some (.ref m), some (.int (nI lo)), some (.int (nI hi)), some (.int (nI (ch s)))]) (hi := rfl) (hd := dX10_sign_25) (hn := by decide) (hok := rfl) (hls := rfl) ?_
    refine mx_iload_n (i := 3) (hi := rfl) (hl := rfl) (hd := dX10_sign_26) ?_
    refine mx_i2l (hv := rfl) (hd := dX10_sign_27) ?_
    refine mx_iload_n (i := 1) (hi := rfl) (hl := rfl) (hd := dX10_sign_28) ?_
    refine mx_i2l (hv := rfl) (hd := dX10_sign_29) ?_
    refine mx_iload_n (i := 2) (hi := rfl) (hl := rfl) (hd := dX10_sign_30) ?_
    refine mx_i2l (hv := rfl) (hd := dX10_sign_31) ?_
    refine mx_callSp (As := [.long ((nI (ch s)).toInt64), .long ((nI lo).toInt64), .long ((nI hi).toInt64)]) (rest := []) dX10_sign_32 (mt_inN G I (ch s) lo hi (by omega) (by omega) (by omega)) km_X10_in rfl k_1115 k_1116 rfl rfl (Nat.le_of_ble_eq_true rfl) (by decide) ?_
    refine mx_ifB_ne 41 dX10_sign_35 (by decide) (fun c35 => ?_) (fun c35 => ?_)
    · skip
      refine mx_aload_n (i := 0) (hi := rfl) (hl := rfl) (hd := dX10_sign_41) ?_
      refine mx_dup (hva := rfl) (hd := dX10_sign_42) ?_
      refine mx_getV (ci := 10) (k := 3) (nI s) dX10_sign_43 k_1012 (by decide) rfl (by assumption) h3 ?_
      refine mx_iconstN 1 dX10_sign_46 (by decide) ?_
      refine mx_iaddN dX10_sign_47 ?_
      refine mx_putI (ci := 10) (k := 3) dX10_sign_48 k_1012 (by decide) rfl rfl rfl rfl (by assumption) ?_
      refine mx_iload_n (i := 3) (hi := rfl) (hl := rfl) (hd := dX10_sign_51) ?_
      refine mx_iload_n (i := 1) (hi := rfl) (hl := rfl) (hd := dX10_sign_52) ?_
      refine mx_isubN dX10_sign_53 (hg.2.1) ?_
      exact mx_iret dX10_sign_54 rfl rfl (⟨⟨rfl, rfl⟩, rfl⟩)
    · skip
      exact absurd hg.2 c35

set_option maxHeartbeats 4000000 in
set_option maxRecDepth 100000 in
theorem mt_signF (G : mx_G) (I : mx_I) (m : Nat) (hs : oMD G m) (n s : Nat) (ch : Nat → Nat) (ht : txS I m n s ch) (lo hi : Nat) (hlo : lo < 1000) (hhi : hi < 1000) (hg : ¬ sgU ch n s lo hi) : mx_CTp yX10_sign mX10_sign 2 [.ref m, .int (nI lo), .int (nI hi)] G I (some (.int (-9))) := by
  refine mx_start (k := 1) (by decide) rfl rfl (fun h => nomatch h) (Nat.le_of_ble_eq_true rfl) ?_
  show mx_V mX10_sign mx_S0 2 0 0 0 [some (.ref m), some (.int (nI lo)), some (.int (nI hi)), none] [] G I (fun rv Gz Iz => rv = some (.int (-9)) ∧ Gz = G ∧ Iz = I) (fun _ _ _ => False)
  have hs0 := hs
  obtain ⟨tgm, ⟨r_text, t_text, l_text⟩, -⟩ := hs
  obtain ⟨h2, hn110, htx, htc, h3, hsn⟩ := ht
  refine mx_aload_n (i := 0) (hi := rfl) (hl := rfl) (hd := dX10_sign_0) ?_
  refine mx_getV (ci := 10) (k := 3) (nI s) dX10_sign_1 k_1012 (by decide) rfl (by assumption) h3 ?_
  refine mx_aload_n (i := 0) (hi := rfl) (hl := rfl) (hd := dX10_sign_4) ?_
  refine mx_getV (ci := 10) (k := 2) (nI n) dX10_sign_5 k_1011 (by decide) rfl (by assumption) h2 ?_
  refine mx_cmpN_ge 23 dX10_sign_8 (by decide) (by omega) (by omega) (fun c8 => ?_) (fun c8 => ?_)
  · skip
    refine mx_bipush (v := (-9)) (by decide) dX10_sign_23 ?_
    refine mx_istoreE_n (i := 3) (ls' := [some (.ref m), some (.int (nI lo)), some (.int (nI hi)), some (.int (-9))]) (hi := rfl) (hd := dX10_sign_25) (hn := by decide) (hok := rfl) (hls := rfl) ?_
    refine mx_iload_n (i := 3) (hi := rfl) (hl := rfl) (hd := dX10_sign_26) ?_
    refine mx_i2l (hv := rfl) (hd := dX10_sign_27) ?_
    refine mx_iload_n (i := 1) (hi := rfl) (hl := rfl) (hd := dX10_sign_28) ?_
    refine mx_i2l (hv := rfl) (hd := dX10_sign_29) ?_
    refine mx_iload_n (i := 2) (hi := rfl) (hl := rfl) (hd := dX10_sign_30) ?_
    refine mx_i2l (hv := rfl) (hd := dX10_sign_31) ?_
    refine mx_callSp (As := [.long ((-9).toInt64), .long ((nI lo).toInt64), .long ((nI hi).toInt64)]) (rest := []) dX10_sign_32 (mt_in9 G I lo hi hlo hhi) km_X10_in rfl k_1115 k_1116 rfl rfl (Nat.le_of_ble_eq_true rfl) (by decide) ?_
    refine mx_ifB_ne 41 dX10_sign_35 (by decide) (fun c35 => ?_) (fun c35 => ?_)
    · skip
      exact absurd c35 (by first | exact fun q => hg ⟨by omega, q⟩ | (intro q; omega))
    · skip
      refine mx_bipush (v := (-9)) (by decide) dX10_sign_38 ?_
      exact mx_iret dX10_sign_40 rfl rfl (⟨rfl, rfl, rfl⟩)
  · skip
    refine mx_aload_n (i := 0) (hi := rfl) (hl := rfl) (hd := dX10_sign_11) ?_
    refine mx_getR (ci := 10) (k := 1) (r := (m + 1)) dX10_sign_12 k_1010 (by decide) rfl (by assumption) (by assumption) (by omega) ?_
    refine mx_aload_n (i := 0) (hi := rfl) (hl := rfl) (hd := dX10_sign_15) ?_
    refine mx_getV (ci := 10) (k := 3) (nI s) dX10_sign_16 k_1012 (by decide) rfl (by assumption) h3 ?_
    refine mx_ialdV s (nI (ch s)) dX10_sign_19 (by assumption) ⟨rfl, by omega, by omega⟩ (htx s (by omega)) ?_
    refine mx_goto (tgt := 25) dX10_sign_20 (by decide) ?_
    refine mx_istoreE_n (i := 3) (ls' := [some (.ref m), some (.int (nI lo)), some (.int (nI hi)), some (.int (nI (ch s)))]) (hi := rfl) (hd := dX10_sign_25) (hn := by decide) (hok := rfl) (hls := rfl) ?_
    refine mx_iload_n (i := 3) (hi := rfl) (hl := rfl) (hd := dX10_sign_26) ?_
    refine mx_i2l (hv := rfl) (hd := dX10_sign_27) ?_
    refine mx_iload_n (i := 1) (hi := rfl) (hl := rfl) (hd := dX10_sign_28) ?_
    refine mx_i2l (hv := rfl) (hd := dX10_sign_29) ?_
    refine mx_iload_n (i := 2) (hi := rfl) (hl := rfl) (hd := dX10_sign_30) ?_
    refine mx_i2l (hv := rfl) (hd := dX10_sign_31) ?_
    refine mx_callSp (As := [.long ((nI (ch s)).toInt64), .long ((nI lo).toInt64), .long ((nI hi).toInt64)]) (rest := []) dX10_sign_32 (mt_inN G I (ch s) lo hi (by have := htc s (by omega); omega) (by omega) (by omega)) km_X10_in rfl k_1115 k_1116 rfl rfl (Nat.le_of_ble_eq_true rfl) (by decide) ?_
    refine mx_ifB_ne 41 dX10_sign_35 (by decide) (fun c35 => ?_) (fun c35 => ?_)
    · skip
      exact absurd c35 (by first | exact fun q => hg ⟨by omega, q⟩ | (intro q; omega))
    · skip
      refine mx_bipush (v := (-9)) (by decide) dX10_sign_38 ?_
      exact mx_iret dX10_sign_40 rfl rfl (⟨rfl, rfl, rfl⟩)
