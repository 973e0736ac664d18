/-! PatternReader.readSign -/
abbrev Rs : Type := Nat × (Nat → Pc) × (Nat → Pc) × Pa
def rdN (I : mx_I) (o pt : Nat) (x : Rs) : Prop := x.1 ≤ 9 ∧ I o 4 = nI x.1 ∧ (∀ i, i ≤ x.1 → (pcP I (o + 9 + 2 * i) (x.2.1 i) ∧ wfC (x.2.1 i)) ∧ (pcP I (o + 10 + 2 * i) (x.2.2.1 i) ∧ wfC (x.2.2.1 i))) ∧ ptN I pt x.2.2.2
theorem pcP.k {I I' : mx_I} {a : Nat} {x : Pc} (h : pcP I a x) (e : I' a = I a) : pcP I' a x := by
  unfold pcP pcN
  rw [e]
  exact h
def upF {α : Type} (f : Nat → α) (k : Nat) (x : α) : Nat → α := fun i => if i = k then x else f i
def rdS (c next : Nat) (x : Rs) : Rs :=
  if peA c ∧ pL x.2.2.2 < 20 then (x.1, x.2.1, upF x.2.2.1 x.1 (rdB (2 ^ (pL x.2.2.2 + 1), 2 ^ (pL x.2.2.2 + 1), false) (x.2.2.1 x.1) next), rdA (pPlace x.2.2.2 c) (2 ^ (pL x.2.2.2 + 1), 2 ^ (pL x.2.2.2 + 1), false) (x.2.2.1 x.1) next)
  else if c = 40 ∧ x.1 < 9 then (x.1 + 1, upF x.2.1 (x.1 + 1) (0, 0, false), upF x.2.2.1 (x.1 + 1) (0, 0, true), x.2.2.2)
  else if c = 41 ∧ 0 < x.1 then (x.1 - 1, x.2.1, upF x.2.2.1 (x.1 - 1) (rdB (rdO (x.2.1 x.1) (x.2.2.1 x.1)) (x.2.2.1 (x.1 - 1)) next), rdA x.2.2.2 (rdO (x.2.1 x.1) (x.2.2.1 x.1)) (x.2.2.1 (x.1 - 1)) next)
  else if c = 124 then (x.1, upF x.2.1 x.1 (rdO (x.2.1 x.1) (x.2.2.1 x.1)), upF x.2.2.1 x.1 (0, 0, true), x.2.2.2)
  else x
theorem upF_s {α : Type} (f : Nat → α) (k : Nat) (x : α) : upF f k x k = x := if_pos rfl
theorem upF_n {α : Type} {f : Nat → α} {k i : Nat} {x : α} (h : ¬ i = k) : upF f k x i = f i := if_neg h
theorem wfC_0 (b : Bool) : wfC (0, 0, b) := ⟨Nat.two_pow_pos 21, Nat.two_pow_pos 21⟩

set_option maxHeartbeats 4000000 in
set_option maxRecDepth 100000 in
theorem ct_readSign (G : mx_G) (I : mx_I) (o pt op c next : Nat) (en br : Nat → Pc) (A : Pa) (hs : oRD G o) (hr3 : mx_rf G o 3 = pt) (hpt : oPT G pt) (hpd : o + 29 ≤ pt) (hx : rdN I o pt (op, en, br, A)) (hc : c < 65536) (hnx : next < 65536) : mx_CTi yX3_readSign mX3_readSign 5 [.ref o, .int (nI c), .int (nI next)] G I (fun rv I1 => rv = none ∧ rdN I1 o pt (rdS c next (op, en, br, A)) ∧ ∀ a, (a < o ∨ (o + 4 ≤ a ∧ a < o + 9) ∨ o + 29 ≤ a) → (a < pt ∨ pt + 5 ≤ a) → I1 a = I a) := by
  refine mx_start (k := 1) (by decide) rfl rfl (fun h => nomatch h) (Nat.le_of_ble_eq_true rfl) ?_
  show mx_V mX3_readSign mx_S0 5 0 0 0 [some (.ref o), some (.int (nI c)), some (.int (nI next)), none] [] G I (fun rv Gz Iz => (fun rv I1 => rv = none ∧ rdN I1 o pt (rdS c next (op, en, br, A)) ∧ ∀ a, (a < o ∨ (o + 4 ≤ a ∧ a < o + 9) ∨ o + 29 ≤ a) → (a < pt ∨ pt + 5 ≤ a) → I1 a = I a) rv Iz ∧ Gz = G) (fun _ _ _ => False)
  have hs0 := hs
  obtain ⟨hg0, ⟨hg1, hg2, hg3⟩, ⟨hg4, hg5, hg6⟩, ⟨hg7, hg8⟩, hpc⟩ := hs
  have hp0 := hpt.1
  obtain ⟨hop, h4, hps, hA⟩ := hx
  have hop : op ≤ 9 := hop
  obtain ⟨⟨he1, he2⟩, hb1, hb2⟩ := hpc op (by omega)
  obtain ⟨⟨hen, hew⟩, hbr, hbw⟩ := hps op (Nat.le_refl _)
  have hL20 : pL A ≤ 20 := hA.1.1
  have hbit : 2 ^ (pL A + 1) < 2 ^ 32 := Nat.lt_of_le_of_lt (Nat.pow_le_pow_right (by decide) (show pL A + 1 ≤ 21 by omega)) (by decide)
  refine mx_iload_n (i := 1) (hi := rfl) (hl := rfl) (hd := dX3_readSign_0) ?_
  refine mx_callSp (As := [.int (nI c)]) (rest := []) dX3_readSign_1 (ct_isLetter G I c hc) km_X2_isLetter rfl k_831 k_810 rfl rfl (Nat.le_of_ble_eq_true rfl) (by decide) ?_
  refine mx_ifB_eq 46 dX3_readSign_4 (by decide) (fun c4 => ?_) (fun c4 => ?_)
  · skip
    refine mx_iload_n (i := 1) (hi := rfl) (hl := rfl) (hd := dX3_readSign_46) ?_
    refine mx_bipushN 40 dX3_readSign_47 (by decide) ?_
    refine mx_cmpN_ne 78 dX3_readSign_49 (by decide) (by omega) (by omega) (fun c49 => ?_) (fun c49 => ?_)
    · skip
      refine mx_iload_n (i := 1) (hi := rfl) (hl := rfl) (hd := dX3_readSign_78) ?_
      refine mx_bipushN 41 dX3_readSign_79 (by decide) ?_
      refine mx_cmpN_ne 133 dX3_readSign_81 (by decide) (by omega) (by omega) (fun c81 => ?_) (fun c81 => ?_)
      · skip
        refine mx_iload_n (i := 1) (hi := rfl) (hl := rfl) (hd := dX3_readSign_133) ?_
        refine mx_bipushN 124 dX3_readSign_134 (by decide) ?_
        refine mx_cmpN_ne 175 dX3_readSign_136 (by decide) (by omega) (by omega) (fun c136 => ?_) (fun c136 => ?_)
        · skip
          exact mx_vret dX3_readSign_175 rfl (⟨⟨rfl, by unfold rdS; rw [if_neg (by show ¬ (peA c ∧ pL A < 20); omega), if_neg (by show ¬ (c = 40 ∧ op < 9); omega), if_neg (by show ¬ (c = 41 ∧ 0 < op); omega), if_neg (by show ¬ c = 124; omega)]; exact ⟨hop, h4, hps, hA⟩, fun a _ _ => rfl⟩, rfl⟩)
        · skip
          refine mx_aload_n (i := 0) (hi := rfl) (hl := rfl) (hd := dX3_readSign_139) ?_
          refine mx_getR (ci := 3) (k := 0) (r := (o + 1)) dX3_readSign_140 k_141 (by decide) rfl (by assumption) (by assumption) (by omega) ?_
          refine mx_aload_n (i := 0) (hi := rfl) (hl := rfl) (hd := dX3_readSign_143) ?_
          refine mx_getV (ci := 3) (k := 4) (nI op) dX3_readSign_144 k_145 (by decide) rfl (by assumption) h4 ?_
          refine mx_aald (r := (o + 9 + 2 * op)) op dX3_readSign_147 (by assumption) (by decide) ⟨rfl, by omega, by omega⟩ (he1) (by omega) ?_
          refine mx_aload_n (i := 0) (hi := rfl) (hl := rfl) (hd := dX3_readSign_148) ?_
          refine mx_getR (ci := 3) (k := 1) (r := (o + 2)) dX3_readSign_149 k_142 (by decide) rfl (by assumption) (by assumption) (by omega) ?_
          refine mx_aload_n (i := 0) (hi := rfl) (hl := rfl) (hd := dX3_readSign_152) ?_
          refine mx_getV (ci := 3) (k := 4) (nI op) dX3_readSign_153 k_145 (by decide) rfl (by assumption) h4 ?_
          refine mx_aald (r := (o + 10 + 2 * op)) op dX3_readSign_156 (by assumption) (by decide) ⟨rfl, by omega, by omega⟩ (hb1) (by omega) ?_
          refine mx_callVi (ci := 4) (As := [.ref (o + 10 + 2 * op)]) (rest := []) dX3_readSign_157 (ct_orElse G I (o + 9 + 2 * op) (o + 10 + 2 * op) (en op).1 (en op).2.1 (br op).1 (br op).2.1 (en op).2.2 (br op).2.2 he2 hb2 hen hbr) km_X4_orElse rfl k_848 k_849 k_850 (by assumption) rfl rfl (Nat.le_of_ble_eq_true rfl) (by decide) (fun r1 I7 h2 => ?_)
          obtain ⟨e9, k1, k2⟩ := h2
          subst e9
          have h47 : I7 o 4 = nI op := by rw [k2 o (by omega)]; exact h4
          refine mx_aload_n (i := 0) (hi := rfl) (hl := rfl) (hd := dX3_readSign_160) ?_
          refine mx_getR (ci := 3) (k := 1) (r := (o + 2)) dX3_readSign_161 k_142 (by decide) rfl (by assumption) (by assumption) (by omega) ?_
          refine mx_aload_n (i := 0) (hi := rfl) (hl := rfl) (hd := dX3_readSign_164) ?_
          refine mx_getV (ci := 3) (k := 4) (nI op) dX3_readSign_165 k_145 (by decide) rfl (by assumption) h47 ?_
          refine mx_aald (r := (o + 10 + 2 * op)) op dX3_readSign_168 (by assumption) (by decide) ⟨rfl, by omega, by omega⟩ (hb1) (by omega) ?_
          refine mx_iconstN 0 dX3_readSign_169 (by decide) ?_
          refine mx_iconstN 0 dX3_readSign_170 (by decide) ?_
          refine mx_iconstN 1 dX3_readSign_171 (by decide) ?_
          refine mx_top (y := mx_b (decide (true = true))) (by decide) ?_
          refine mx_callVi (ci := 4) (As := [.int (nI 0), .int (nI 0), .int (mx_b (decide (true = true)))]) (rest := []) dX3_readSign_172 (ct_become G I7 (o + 10 + 2 * op) 0 0 true hb2) km_X4_become rfl k_823 k_824 k_825 (by assumption) rfl rfl (Nat.le_of_ble_eq_true rfl) (by decide) (fun r3 I8 h4 => ?_)
          obtain ⟨e9, k3, k4⟩ := h4
          subst e9
          refine mx_vret dX3_readSign_175 rfl (⟨⟨rfl, ?_, fun a h1 h2 => by rw [k4 a (by omega), k2 a (by omega)]⟩, rfl⟩)
          unfold rdS
          rw [if_neg (by show ¬ (peA c ∧ pL A < 20); omega), if_neg (by show ¬ (c = 40 ∧ op < 9); omega), if_neg (by show ¬ (c = 41 ∧ 0 < op); omega), if_pos c136]
          refine ⟨hop, ?_, ?_, (hA.fr k2 (by omega)).fr k4 (by omega)⟩
          · rw [k4 o (by omega)]; exact h47
          · intro i hi
            have hi : i ≤ op := hi
            obtain ⟨⟨q1, q2⟩, q3, q4⟩ := hps i hi
            by_cases e : i = op
            · subst e
              show (pcP I8 _ (upF en i _ i) ∧ wfC (upF en i _ i)) ∧ (pcP I8 _ (upF br i _ i) ∧ wfC (upF br i _ i))
              rw [upF_s, upF_s]
              exact ⟨⟨pcP.k (x := rdO (en i) (br i)) k1 (k4 _ (by omega)), hew.O hbw⟩, k3, wfC_0 _⟩
            · show (pcP I8 _ (upF en op _ i) ∧ wfC (upF en op _ i)) ∧ (pcP I8 _ (upF br op _ i) ∧ wfC (upF br op _ i))
              rw [upF_n e, upF_n e]
              exact ⟨⟨(q1.k (k2 _ (by omega))).k (k4 _ (by omega)), q2⟩, (q3.k (k2 _ (by omega))).k (k4 _ (by omega)), q4⟩
      · skip
        refine mx_aload_n (i := 0) (hi := rfl) (hl := rfl) (hd := dX3_readSign_84) ?_
        refine mx_getV (ci := 3) (k := 4) (nI op) dX3_readSign_85 k_145 (by decide) rfl (by assumption) h4 ?_
        refine mx_ifN_le 133 dX3_readSign_88 (by decide) (by omega) (fun c88 => ?_) (fun c88 => ?_)
        · skip
          refine mx_iload_n (i := 1) (hi := rfl) (hl := rfl) (hd := dX3_readSign_133) ?_
          refine mx_bipushN 124 dX3_readSign_134 (by decide) ?_
          refine mx_cmpN_ne 175 dX3_readSign_136 (by decide) (by omega) (by omega) (fun c136 => ?_) (fun c136 => ?_)
          · skip
            exact mx_vret dX3_readSign_175 rfl (⟨⟨rfl, by unfold rdS; rw [if_neg (by show ¬ (peA c ∧ pL A < 20); omega), if_neg (by show ¬ (c = 40 ∧ op < 9); omega), if_neg (by show ¬ (c = 41 ∧ 0 < op); omega), if_neg (by show ¬ c = 124; omega)]; exact ⟨hop, h4, hps, hA⟩, fun a _ _ => rfl⟩, rfl⟩)
          · skip
            refine mx_aload_n (i := 0) (hi := rfl) (hl := rfl) (hd := dX3_readSign_139) ?_
            refine mx_getR (ci := 3) (k := 0) (r := (o + 1)) dX3_readSign_140 k_141 (by decide) rfl (by assumption) (by assumption) (by omega) ?_
            refine mx_aload_n (i := 0) (hi := rfl) (hl := rfl) (hd := dX3_readSign_143) ?_
            refine mx_getV (ci := 3) (k := 4) (nI op) dX3_readSign_144 k_145 (by decide) rfl (by assumption) h4 ?_
            refine mx_aald (r := (o + 9 + 2 * op)) op dX3_readSign_147 (by assumption) (by decide) ⟨rfl, by omega, by omega⟩ (he1) (by omega) ?_
            refine mx_aload_n (i := 0) (hi := rfl) (hl := rfl) (hd := dX3_readSign_148) ?_
            refine mx_getR (ci := 3) (k := 1) (r := (o + 2)) dX3_readSign_149 k_142 (by decide) rfl (by assumption) (by assumption) (by omega) ?_
            refine mx_aload_n (i := 0) (hi := rfl) (hl := rfl) (hd := dX3_readSign_152) ?_
            refine mx_getV (ci := 3) (k := 4) (nI op) dX3_readSign_153 k_145 (by decide) rfl (by assumption) h4 ?_
            refine mx_aald (r := (o + 10 + 2 * op)) op dX3_readSign_156 (by assumption) (by decide) ⟨rfl, by omega, by omega⟩ (hb1) (by omega) ?_
            refine mx_callVi (ci := 4) (As := [.ref (o + 10 + 2 * op)]) (rest := []) dX3_readSign_157 (ct_orElse G I (o + 9 + 2 * op) (o + 10 + 2 * op) (en op).1 (en op).2.1 (br op).1 (br op).2.1 (en op).2.2 (br op).2.2 he2 hb2 hen hbr) km_X4_orElse rfl k_848 k_849 k_850 (by assumption) rfl rfl (Nat.le_of_ble_eq_true rfl) (by decide) (fun r5 I7 h6 => ?_)
            obtain ⟨e9, k1, k2⟩ := h6
            subst e9
            have h47 : I7 o 4 = nI op := by rw [k2 o (by omega)]; exact h4
            refine mx_aload_n (i := 0) (hi := rfl) (hl := rfl) (hd := dX3_readSign_160) ?_
            refine mx_getR (ci := 3) (k := 1) (r := (o + 2)) dX3_readSign_161 k_142 (by decide) rfl (by assumption) (by assumption) (by omega) ?_
            refine mx_aload_n (i := 0) (hi := rfl) (hl := rfl) (hd := dX3_readSign_164) ?_
            refine mx_getV (ci := 3) (k := 4) (nI op) dX3_readSign_165 k_145 (by decide) rfl (by assumption) h47 ?_
            refine mx_aald (r := (o + 10 + 2 * op)) op dX3_readSign_168 (by assumption) (by decide) ⟨rfl, by omega, by omega⟩ (hb1) (by omega) ?_
            refine mx_iconstN 0 dX3_readSign_169 (by decide) ?_
            refine mx_iconstN 0 dX3_readSign_170 (by decide) ?_
            refine mx_iconstN 1 dX3_readSign_171 (by decide) ?_
            refine mx_top (y := mx_b (decide (true = true))) (by decide) ?_
            refine mx_callVi (ci := 4) (As := [.int (nI 0), .int (nI 0), .int (mx_b (decide (true = true)))]) (rest := []) dX3_readSign_172 (ct_become G I7 (o + 10 + 2 * op) 0 0 true hb2) km_X4_become rfl k_823 k_824 k_825 (by assumption) rfl rfl (Nat.le_of_ble_eq_true rfl) (by decide) (fun r7 I8 h8 => ?_)
            obtain ⟨e9, k3, k4⟩ := h8
            subst e9
            refine mx_vret dX3_readSign_175 rfl (⟨⟨rfl, ?_, fun a h1 h2 => by rw [k4 a (by omega), k2 a (by omega)]⟩, rfl⟩)
            unfold rdS
            rw [if_neg (by show ¬ (peA c ∧ pL A < 20); omega), if_neg (by show ¬ (c = 40 ∧ op < 9); omega), if_neg (by show ¬ (c = 41 ∧ 0 < op); omega), if_pos c136]
            refine ⟨hop, ?_, ?_, (hA.fr k2 (by omega)).fr k4 (by omega)⟩
            · rw [k4 o (by omega)]; exact h47
            · intro i hi
              have hi : i ≤ op := hi
              obtain ⟨⟨q1, q2⟩, q3, q4⟩ := hps i hi
              by_cases e : i = op
              · subst e
                show (pcP I8 _ (upF en i _ i) ∧ wfC (upF en i _ i)) ∧ (pcP I8 _ (upF br i _ i) ∧ wfC (upF br i _ i))
                rw [upF_s, upF_s]
                exact ⟨⟨pcP.k (x := rdO (en i) (br i)) k1 (k4 _ (by omega)), hew.O hbw⟩, k3, wfC_0 _⟩
              · show (pcP I8 _ (upF en op _ i) ∧ wfC (upF en op _ i)) ∧ (pcP I8 _ (upF br op _ i) ∧ wfC (upF br op _ i))
                rw [upF_n e, upF_n e]
                exact ⟨⟨(q1.k (k2 _ (by omega))).k (k4 _ (by omega)), q2⟩, (q3.k (k2 _ (by omega))).k (k4 _ (by omega)), q4⟩
        · skip
          refine mx_aload_n (i := 0) (hi := rfl) (hl := rfl) (hd := dX3_readSign_91) ?_
          refine mx_callVi (ci := 3) (As := []) (rest := []) dX3_readSign_92 (ct_rdClosed G I o op hs0 hop h4 (en op) (br op) hen hbr) km_X3_closed rfl k_844 k_846 k_23 (by assumption) rfl rfl (Nat.le_of_ble_eq_true rfl) (by decide) (fun r9 I2 h10 => ?_)
          obtain ⟨e9, k1, k2⟩ := h10
          subst e9
          refine mx_astoreE_n (i := 3) (ls' := [some (.ref o), some (.int (nI c)), some (.int (nI next)), some (.ref (o + 9 + 2 * op))]) (hi := rfl) (hd := dX3_readSign_95) (hn := by decide) (hok := rfl) (hls := rfl) ?_
          refine mx_aload_n (i := 0) (hi := rfl) (hl := rfl) (hd := dX3_readSign_96) ?_
          refine mx_getR (ci := 3) (k := 2) (r := (o + 3)) dX3_readSign_97 k_143 (by decide) rfl (by assumption) (by assumption) (by omega) ?_
          refine mx_aload_n (i := 3) (hi := rfl) (hl := rfl) (hd := dX3_readSign_100) ?_
          refine mx_getV (ci := 4) (k := 0) (nI ((rdO (en op) (br op)).1)) dX3_readSign_101 k_127 (by decide) rfl (by assumption) k1.1 ?_
          refine mx_aload_n (i := 3) (hi := rfl) (hl := rfl) (hd := dX3_readSign_104) ?_
          refine mx_getV (ci := 4) (k := 1) (nI ((rdO (en op) (br op)).2.1)) dX3_readSign_105 k_129 (by decide) rfl (by assumption) k1.2.1 ?_
          refine mx_aload_n (i := 3) (hi := rfl) (hl := rfl) (hd := dX3_readSign_108) ?_
          refine mx_getV (ci := 4) (k := 2) (mx_b (decide ((rdO (en op) (br op)).2.2 = true)) : Int32) dX3_readSign_109 k_131 (by decide) rfl (by assumption) (by rw [mx_dec]; exact k1.2.2) ?_
          refine mx_callVi (ci := 4) (As := [.int (nI ((rdO (en op) (br op)).1)), .int (nI ((rdO (en op) (br op)).2.1)), .int (mx_b (decide ((rdO (en op) (br op)).2.2 = true)))]) (rest := []) dX3_readSign_112 (ct_become G I2 (o + 3) (rdO (en op) (br op)).1 (rdO (en op) (br op)).2.1 (rdO (en op) (br op)).2.2 hg8) km_X4_become rfl k_823 k_824 k_825 (by assumption) rfl rfl (Nat.le_of_ble_eq_true rfl) (by decide) (fun r11 I3 h12 => ?_)
          obtain ⟨e9, k3, k4⟩ := h12
          subst e9
          obtain ⟨⟨hpe1, hpe2⟩, hpb1, hpb2⟩ := hps (op - 1) (by show op - 1 ≤ op; omega)
          refine mx_aload_n (i := 0) (hi := rfl) (hl := rfl) (hd := dX3_readSign_115) ?_
          refine mx_dup (hva := rfl) (hd := dX3_readSign_116) ?_
          refine mx_getV (ci := 3) (k := 4) (nI op) dX3_readSign_117 k_145 (by decide) rfl (by assumption) (by rw [k4 o (by omega), k2 o (by omega)]; exact h4) ?_
          refine mx_iconstN 1 dX3_readSign_120 (by decide) ?_
          refine mx_isubN dX3_readSign_121 (by omega) ?_
          refine mx_putI (ci := 3) (k := 4) dX3_readSign_122 k_145 (by decide) rfl rfl rfl rfl (by assumption) ?_
          refine mx_aload_n (i := 0) (hi := rfl) (hl := rfl) (hd := dX3_readSign_125) ?_
          refine mx_iload_n (i := 2) (hi := rfl) (hl := rfl) (hd := dX3_readSign_126) ?_
          refine mx_callVi (ci := 3) (As := [.int (nI next)]) (rest := []) dX3_readSign_127 (ct_rdAdd G _ o (op - 1) hs0 (by omega) (by rw [mx_u_at, if_pos ⟨rfl, rfl⟩]) pt next A (rdO (en op) (br op)) (br (op - 1)) hr3 hpt hpd (((hA.fr k2 (by omega)).fr k4 (by omega)).fr (lo := o) (hi := o + 1) ((mx_fr.rf _ _ _).u (by omega)) (by omega)) (pcN.fr (lo := o) (hi := o + 1) k3 ((mx_fr.rf _ _ _).u (by omega)) (by omega)) (pcN.fr (lo := o) (hi := o + 1) ((hpb1.k (k2 _ (by omega))).k (k4 _ (by omega))) ((mx_fr.rf _ _ _).u (by omega)) (by omega)) (hew.O hbw) hpb2 hnx) km_X3_addPart rfl k_836 k_838 k_22 (by assumption) rfl rfl (Nat.le_of_ble_eq_true rfl) (by decide) (fun r13 I6 h14 => ?_)
          obtain ⟨e9, m5, m6, m7⟩ := h14
          subst e9
          refine mx_goto (tgt := 175) dX3_readSign_130 (by decide) ?_
          refine mx_vret dX3_readSign_175 rfl (⟨⟨rfl, ?_, fun a h1 h2 => by rw [m7 a h2 (by omega)]; funext k; rw [mx_u_at, if_neg (by omega), k4 a (by omega), k2 a (by omega)]⟩, rfl⟩)
          unfold rdS
          rw [if_neg (by show ¬ (peA c ∧ pL A < 20); omega), if_neg (by show ¬ (c = 40 ∧ op < 9); omega), if_pos ⟨c81, by show 0 < op; omega⟩]
          refine ⟨by show op - 1 ≤ 9; omega, ?_, ?_, m5⟩
          · rw [m7 o (by omega) (by omega), mx_u_at, if_pos ⟨rfl, rfl⟩]
          · intro i hi
            have hi : i ≤ op - 1 := hi
            obtain ⟨⟨q1, q2⟩, q3, q4⟩ := hps i (by show i ≤ op; omega)
            have f0 : ∀ b, b ≠ o → mx_u I3 o 4 (nI (op - 1)) b = I3 b := fun b hb => by funext k; rw [mx_u_at, if_neg (by omega)]
            refine ⟨⟨(((q1.k (k2 _ (by omega))).k (k4 _ (by omega))).k (f0 _ (by omega))).k (m7 _ (by omega) (by omega)), q2⟩, ?_⟩
            by_cases e : i = op - 1
            · show pcP I6 _ (upF br (op - 1) _ i) ∧ wfC (upF br (op - 1) _ i)
              rw [e, upF_s]
              exact ⟨m6, wfC.B (hew.O hbw) hpb2 next⟩
            · show pcP I6 _ (upF br (op - 1) _ i) ∧ wfC (upF br (op - 1) _ i)
              rw [upF_n e]
              exact ⟨(((q3.k (k2 _ (by omega))).k (k4 _ (by omega))).k (f0 _ (by omega))).k (m7 _ (by omega) (by omega)), q4⟩
    · skip
      refine mx_aload_n (i := 0) (hi := rfl) (hl := rfl) (hd := dX3_readSign_52) ?_
      refine mx_getV (ci := 3) (k := 4) (nI op) dX3_readSign_53 k_145 (by decide) rfl (by assumption) h4 ?_
      refine mx_bipushN 9 dX3_readSign_56 (by decide) ?_
      refine mx_cmpN_ge 78 dX3_readSign_58 (by decide) (by omega) (by omega) (fun c58 => ?_) (fun c58 => ?_)
      · skip
        refine mx_iload_n (i := 1) (hi := rfl) (hl := rfl) (hd := dX3_readSign_78) ?_
        refine mx_bipushN 41 dX3_readSign_79 (by decide) ?_
        refine mx_cmpN_ne 133 dX3_readSign_81 (by decide) (by omega) (by omega) (fun c81 => ?_) (fun c81 => ?_)
        · skip
          refine mx_iload_n (i := 1) (hi := rfl) (hl := rfl) (hd := dX3_readSign_133) ?_
          refine mx_bipushN 124 dX3_readSign_134 (by decide) ?_
          refine mx_cmpN_ne 175 dX3_readSign_136 (by decide) (by omega) (by omega) (fun c136 => ?_) (fun c136 => ?_)
          · skip
            exact mx_vret dX3_readSign_175 rfl (⟨⟨rfl, by unfold rdS; rw [if_neg (by show ¬ (peA c ∧ pL A < 20); omega), if_neg (by show ¬ (c = 40 ∧ op < 9); omega), if_neg (by show ¬ (c = 41 ∧ 0 < op); omega), if_neg (by show ¬ c = 124; omega)]; exact ⟨hop, h4, hps, hA⟩, fun a _ _ => rfl⟩, rfl⟩)
          · skip
            refine mx_aload_n (i := 0) (hi := rfl) (hl := rfl) (hd := dX3_readSign_139) ?_
            refine mx_getR (ci := 3) (k := 0) (r := (o + 1)) dX3_readSign_140 k_141 (by decide) rfl (by assumption) (by assumption) (by omega) ?_
            refine mx_aload_n (i := 0) (hi := rfl) (hl := rfl) (hd := dX3_readSign_143) ?_
            refine mx_getV (ci := 3) (k := 4) (nI op) dX3_readSign_144 k_145 (by decide) rfl (by assumption) h4 ?_
            refine mx_aald (r := (o + 9 + 2 * op)) op dX3_readSign_147 (by assumption) (by decide) ⟨rfl, by omega, by omega⟩ (he1) (by omega) ?_
            refine mx_aload_n (i := 0) (hi := rfl) (hl := rfl) (hd := dX3_readSign_148) ?_
            refine mx_getR (ci := 3) (k := 1) (r := (o + 2)) dX3_readSign_149 k_142 (by decide) rfl (by assumption) (by assumption) (by omega) ?_
            refine mx_aload_n (i := 0) (hi := rfl) (hl := rfl) (hd := dX3_readSign_152) ?_
            refine mx_getV (ci := 3) (k := 4) (nI op) dX3_readSign_153 k_145 (by decide) rfl (by assumption) h4 ?_
            refine mx_aald (r := (o + 10 + 2 * op)) op dX3_readSign_156 (by assumption) (by decide) ⟨rfl, by omega, by omega⟩ (hb1) (by omega) ?_
            refine mx_callVi (ci := 4) (As := [.ref (o + 10 + 2 * op)]) (rest := []) dX3_readSign_157 (ct_orElse G I (o + 9 + 2 * op) (o + 10 + 2 * op) (en op).1 (en op).2.1 (br op).1 (br op).2.1 (en op).2.2 (br op).2.2 he2 hb2 hen hbr) km_X4_orElse rfl k_848 k_849 k_850 (by assumption) rfl rfl (Nat.le_of_ble_eq_true rfl) (by decide) (fun r15 I7 h16 => ?_)
            obtain ⟨e9, k1, k2⟩ := h16
            subst e9
            have h47 : I7 o 4 = nI op := by rw [k2 o (by omega)]; exact h4
            refine mx_aload_n (i := 0) (hi := rfl) (hl := rfl) (hd := dX3_readSign_160) ?_
            refine mx_getR (ci := 3) (k := 1) (r := (o + 2)) dX3_readSign_161 k_142 (by decide) rfl (by assumption) (by assumption) (by omega) ?_
            refine mx_aload_n (i := 0) (hi := rfl) (hl := rfl) (hd := dX3_readSign_164) ?_
            refine mx_getV (ci := 3) (k := 4) (nI op) dX3_readSign_165 k_145 (by decide) rfl (by assumption) h47 ?_
            refine mx_aald (r := (o + 10 + 2 * op)) op dX3_readSign_168 (by assumption) (by decide) ⟨rfl, by omega, by omega⟩ (hb1) (by omega) ?_
            refine mx_iconstN 0 dX3_readSign_169 (by decide) ?_
            refine mx_iconstN 0 dX3_readSign_170 (by decide) ?_
            refine mx_iconstN 1 dX3_readSign_171 (by decide) ?_
            refine mx_top (y := mx_b (decide (true = true))) (by decide) ?_
            refine mx_callVi (ci := 4) (As := [.int (nI 0), .int (nI 0), .int (mx_b (decide (true = true)))]) (rest := []) dX3_readSign_172 (ct_become G I7 (o + 10 + 2 * op) 0 0 true hb2) km_X4_become rfl k_823 k_824 k_825 (by assumption) rfl rfl (Nat.le_of_ble_eq_true rfl) (by decide) (fun r17 I8 h18 => ?_)
            obtain ⟨e9, k3, k4⟩ := h18
            subst e9
            refine mx_vret dX3_readSign_175 rfl (⟨⟨rfl, ?_, fun a h1 h2 => by rw [k4 a (by omega), k2 a (by omega)]⟩, rfl⟩)
            unfold rdS
            rw [if_neg (by show ¬ (peA c ∧ pL A < 20); omega), if_neg (by show ¬ (c = 40 ∧ op < 9); omega), if_neg (by show ¬ (c = 41 ∧ 0 < op); omega), if_pos c136]
            refine ⟨hop, ?_, ?_, (hA.fr k2 (by omega)).fr k4 (by omega)⟩
            · rw [k4 o (by omega)]; exact h47
            · intro i hi
              have hi : i ≤ op := hi
              obtain ⟨⟨q1, q2⟩, q3, q4⟩ := hps i hi
              by_cases e : i = op
              · subst e
                show (pcP I8 _ (upF en i _ i) ∧ wfC (upF en i _ i)) ∧ (pcP I8 _ (upF br i _ i) ∧ wfC (upF br i _ i))
                rw [upF_s, upF_s]
                exact ⟨⟨pcP.k (x := rdO (en i) (br i)) k1 (k4 _ (by omega)), hew.O hbw⟩, k3, wfC_0 _⟩
              · show (pcP I8 _ (upF en op _ i) ∧ wfC (upF en op _ i)) ∧ (pcP I8 _ (upF br op _ i) ∧ wfC (upF br op _ i))
                rw [upF_n e, upF_n e]
                exact ⟨⟨(q1.k (k2 _ (by omega))).k (k4 _ (by omega)), q2⟩, (q3.k (k2 _ (by omega))).k (k4 _ (by omega)), q4⟩
        · skip
          refine mx_aload_n (i := 0) (hi := rfl) (hl := rfl) (hd := dX3_readSign_84) ?_
          refine mx_getV (ci := 3) (k := 4) (nI op) dX3_readSign_85 k_145 (by decide) rfl (by assumption) h4 ?_
          refine mx_ifN_le 133 dX3_readSign_88 (by decide) (by omega) (fun c88 => ?_) (fun c88 => ?_)
          · skip
            refine mx_iload_n (i := 1) (hi := rfl) (hl := rfl) (hd := dX3_readSign_133) ?_
            refine mx_bipushN 124 dX3_readSign_134 (by decide) ?_
            refine mx_cmpN_ne 175 dX3_readSign_136 (by decide) (by omega) (by omega) (fun c136 => ?_) (fun c136 => ?_)
            · skip
              exact mx_vret dX3_readSign_175 rfl (⟨⟨rfl, by unfold rdS; rw [if_neg (by show ¬ (peA c ∧ pL A < 20); omega), if_neg (by show ¬ (c = 40 ∧ op < 9); omega), if_neg (by show ¬ (c = 41 ∧ 0 < op); omega), if_neg (by show ¬ c = 124; omega)]; exact ⟨hop, h4, hps, hA⟩, fun a _ _ => rfl⟩, rfl⟩)
            · skip
              refine mx_aload_n (i := 0) (hi := rfl) (hl := rfl) (hd := dX3_readSign_139) ?_
              refine mx_getR (ci := 3) (k := 0) (r := (o + 1)) dX3_readSign_140 k_141 (by decide) rfl (by assumption) (by assumption) (by omega) ?_
              refine mx_aload_n (i := 0) (hi := rfl) (hl := rfl) (hd := dX3_readSign_143) ?_
              refine mx_getV (ci := 3) (k := 4) (nI op) dX3_readSign_144 k_145 (by decide) rfl (by assumption) h4 ?_
              refine mx_aald (r := (o + 9 + 2 * op)) op dX3_readSign_147 (by assumption) (by decide) ⟨rfl, by omega, by omega⟩ (he1) (by omega) ?_
              refine mx_aload_n (i := 0) (hi := rfl) (hl := rfl) (hd := dX3_readSign_148) ?_
              refine mx_getR (ci := 3) (k := 1) (r := (o + 2)) dX3_readSign_149 k_142 (by decide) rfl (by assumption) (by assumption) (by omega) ?_
              refine mx_aload_n (i := 0) (hi := rfl) (hl := rfl) (hd := dX3_readSign_152) ?_
              refine mx_getV (ci := 3) (k := 4) (nI op) dX3_readSign_153 k_145 (by decide) rfl (by assumption) h4 ?_
              refine mx_aald (r := (o + 10 + 2 * op)) op dX3_readSign_156 (by assumption) (by decide) ⟨rfl, by omega, by omega⟩ (hb1) (by omega) ?_
              refine mx_callVi (ci := 4) (As := [.ref (o + 10 + 2 * op)]) (rest := []) dX3_readSign_157 (ct_orElse G I (o + 9 + 2 * op) (o + 10 + 2 * op) (en op).1 (en op).2.1 (br op).1 (br op).2.1 (en op).2.2 (br op).2.2 he2 hb2 hen hbr) km_X4_orElse rfl k_848 k_849 k_850 (by assumption) rfl rfl (Nat.le_of_ble_eq_true rfl) (by decide) (fun r19 I7 h20 => ?_)
              obtain ⟨e9, k1, k2⟩ := h20
              subst e9
              have h47 : I7 o 4 = nI op := by rw [k2 o (by omega)]; exact h4
              refine mx_aload_n (i := 0) (hi := rfl) (hl := rfl) (hd := dX3_readSign_160) ?_
              refine mx_getR (ci := 3) (k := 1) (r := (o + 2)) dX3_readSign_161 k_142 (by decide) rfl (by assumption) (by assumption) (by omega) ?_
              refine mx_aload_n (i := 0) (hi := rfl) (hl := rfl) (hd := dX3_readSign_164) ?_
              refine mx_getV (ci := 3) (k := 4) (nI op) dX3_readSign_165 k_145 (by decide) rfl (by assumption) h47 ?_
              refine mx_aald (r := (o + 10 + 2 * op)) op dX3_readSign_168 (by assumption) (by decide) ⟨rfl, by omega, by omega⟩ (hb1) (by omega) ?_
              refine mx_iconstN 0 dX3_readSign_169 (by decide) ?_
              refine mx_iconstN 0 dX3_readSign_170 (by decide) ?_
              refine mx_iconstN 1 dX3_readSign_171 (by decide) ?_
              refine mx_top (y := mx_b (decide (true = true))) (by decide) ?_
              refine mx_callVi (ci := 4) (As := [.int (nI 0), .int (nI 0), .int (mx_b (decide (true = true)))]) (rest := []) dX3_readSign_172 (ct_become G I7 (o + 10 + 2 * op) 0 0 true hb2) km_X4_become rfl k_823 k_824 k_825 (by assumption) rfl rfl (Nat.le_of_ble_eq_true rfl) (by decide) (fun r21 I8 h22 => ?_)
              obtain ⟨e9, k3, k4⟩ := h22
              subst e9
              refine mx_vret dX3_readSign_175 rfl (⟨⟨rfl, ?_, fun a h1 h2 => by rw [k4 a (by omega), k2 a (by omega)]⟩, rfl⟩)
              unfold rdS
              rw [if_neg (by show ¬ (peA c ∧ pL A < 20); omega), if_neg (by show ¬ (c = 40 ∧ op < 9); omega), if_neg (by show ¬ (c = 41 ∧ 0 < op); omega), if_pos c136]
              refine ⟨hop, ?_, ?_, (hA.fr k2 (by omega)).fr k4 (by omega)⟩
              · rw [k4 o (by omega)]; exact h47
              · intro i hi
                have hi : i ≤ op := hi
                obtain ⟨⟨q1, q2⟩, q3, q4⟩ := hps i hi
                by_cases e : i = op
                · subst e
                  show (pcP I8 _ (upF en i _ i) ∧ wfC (upF en i _ i)) ∧ (pcP I8 _ (upF br i _ i) ∧ wfC (upF br i _ i))
                  rw [upF_s, upF_s]
                  exact ⟨⟨pcP.k (x := rdO (en i) (br i)) k1 (k4 _ (by omega)), hew.O hbw⟩, k3, wfC_0 _⟩
                · show (pcP I8 _ (upF en op _ i) ∧ wfC (upF en op _ i)) ∧ (pcP I8 _ (upF br op _ i) ∧ wfC (upF br op _ i))
                  rw [upF_n e, upF_n e]
                  exact ⟨⟨(q1.k (k2 _ (by omega))).k (k4 _ (by omega)), q2⟩, (q3.k (k2 _ (by omega))).k (k4 _ (by omega)), q4⟩
          · skip
            refine mx_aload_n (i := 0) (hi := rfl) (hl := rfl) (hd := dX3_readSign_91) ?_
            refine mx_callVi (ci := 3) (As := []) (rest := []) dX3_readSign_92 (ct_rdClosed G I o op hs0 hop h4 (en op) (br op) hen hbr) km_X3_closed rfl k_844 k_846 k_23 (by assumption) rfl rfl (Nat.le_of_ble_eq_true rfl) (by decide) (fun r23 I2 h24 => ?_)
            obtain ⟨e9, k1, k2⟩ := h24
            subst e9
            refine mx_astoreE_n (i := 3) (ls' := [some (.ref o), some (.int (nI c)), some (.int (nI next)), some (.ref (o + 9 + 2 * op))]) (hi := rfl) (hd := dX3_readSign_95) (hn := by decide) (hok := rfl) (hls := rfl) ?_
            refine mx_aload_n (i := 0) (hi := rfl) (hl := rfl) (hd := dX3_readSign_96) ?_
            refine mx_getR (ci := 3) (k := 2) (r := (o + 3)) dX3_readSign_97 k_143 (by decide) rfl (by assumption) (by assumption) (by omega) ?_
            refine mx_aload_n (i := 3) (hi := rfl) (hl := rfl) (hd := dX3_readSign_100) ?_
            refine mx_getV (ci := 4) (k := 0) (nI ((rdO (en op) (br op)).1)) dX3_readSign_101 k_127 (by decide) rfl (by assumption) k1.1 ?_
            refine mx_aload_n (i := 3) (hi := rfl) (hl := rfl) (hd := dX3_readSign_104) ?_
            refine mx_getV (ci := 4) (k := 1) (nI ((rdO (en op) (br op)).2.1)) dX3_readSign_105 k_129 (by decide) rfl (by assumption) k1.2.1 ?_
            refine mx_aload_n (i := 3) (hi := rfl) (hl := rfl) (hd := dX3_readSign_108) ?_
            refine mx_getV (ci := 4) (k := 2) (mx_b (decide ((rdO (en op) (br op)).2.2 = true)) : Int32) dX3_readSign_109 k_131 (by decide) rfl (by assumption) (by rw [mx_dec]; exact k1.2.2) ?_
            refine mx_callVi (ci := 4) (As := [.int (nI ((rdO (en op) (br op)).1)), .int (nI ((rdO (en op) (br op)).2.1)), .int (mx_b (decide ((rdO (en op) (br op)).2.2 = true)))]) (rest := []) dX3_readSign_112 (ct_become G I2 (o + 3) (rdO (en op) (br op)).1 (rdO (en op) (br op)).2.1 (rdO (en op) (br op)).2.2 hg8) km_X4_become rfl k_823 k_824 k_825 (by assumption) rfl rfl (Nat.le_of_ble_eq_true rfl) (by decide) (fun r25 I3 h26 => ?_)
            obtain ⟨e9, k3, k4⟩ := h26
            subst e9
            obtain ⟨⟨hpe1, hpe2⟩, hpb1, hpb2⟩ := hps (op - 1) (by show op - 1 ≤ op; omega)
            refine mx_aload_n (i := 0) (hi := rfl) (hl := rfl) (hd := dX3_readSign_115) ?_
            refine mx_dup (hva := rfl) (hd := dX3_readSign_116) ?_
            refine mx_getV (ci := 3) (k := 4) (nI op) dX3_readSign_117 k_145 (by decide) rfl (by assumption) (by rw [k4 o (by omega), k2 o (by omega)]; exact h4) ?_
            refine mx_iconstN 1 dX3_readSign_120 (by decide) ?_
            refine mx_isubN dX3_readSign_121 (by omega) ?_
            refine mx_putI (ci := 3) (k := 4) dX3_readSign_122 k_145 (by decide) rfl rfl rfl rfl (by assumption) ?_
            refine mx_aload_n (i := 0) (hi := rfl) (hl := rfl) (hd := dX3_readSign_125) ?_
            refine mx_iload_n (i := 2) (hi := rfl) (hl := rfl) (hd := dX3_readSign_126) ?_
            refine mx_callVi (ci := 3) (As := [.int (nI next)]) (rest := []) dX3_readSign_127 (ct_rdAdd G _ o (op - 1) hs0 (by omega) (by rw [mx_u_at, if_pos ⟨rfl, rfl⟩]) pt next A (rdO (en op) (br op)) (br (op - 1)) hr3 hpt hpd (((hA.fr k2 (by omega)).fr k4 (by omega)).fr (lo := o) (hi := o + 1) ((mx_fr.rf _ _ _).u (by omega)) (by omega)) (pcN.fr (lo := o) (hi := o + 1) k3 ((mx_fr.rf _ _ _).u (by omega)) (by omega)) (pcN.fr (lo := o) (hi := o + 1) ((hpb1.k (k2 _ (by omega))).k (k4 _ (by omega))) ((mx_fr.rf _ _ _).u (by omega)) (by omega)) (hew.O hbw) hpb2 hnx) km_X3_addPart rfl k_836 k_838 k_22 (by assumption) rfl rfl (Nat.le_of_ble_eq_true rfl) (by decide) (fun r27 I6 h28 => ?_)
            obtain ⟨e9, m5, m6, m7⟩ := h28
            subst e9
            refine mx_goto (tgt := 175) dX3_readSign_130 (by decide) ?_
            refine mx_vret dX3_readSign_175 rfl (⟨⟨rfl, ?_, fun a h1 h2 => by rw [m7 a h2 (by omega)]; funext k; rw [mx_u_at, if_neg (by omega), k4 a (by omega), k2 a (by omega)]⟩, rfl⟩)
            unfold rdS
            rw [if_neg (by show ¬ (peA c ∧ pL A < 20); omega), if_neg (by show ¬ (c = 40 ∧ op < 9); omega), if_pos ⟨c81, by show 0 < op; omega⟩]
            refine ⟨by show op - 1 ≤ 9; omega, ?_, ?_, m5⟩
            · rw [m7 o (by omega) (by omega), mx_u_at, if_pos ⟨rfl, rfl⟩]
            · intro i hi
              have hi : i ≤ op - 1 := hi
              obtain ⟨⟨q1, q2⟩, q3, q4⟩ := hps i (by show i ≤ op; omega)
              have f0 : ∀ b, b ≠ o → mx_u I3 o 4 (nI (op - 1)) b = I3 b := fun b hb => by funext k; rw [mx_u_at, if_neg (by omega)]
              refine ⟨⟨(((q1.k (k2 _ (by omega))).k (k4 _ (by omega))).k (f0 _ (by omega))).k (m7 _ (by omega) (by omega)), q2⟩, ?_⟩
              by_cases e : i = op - 1
              · show pcP I6 _ (upF br (op - 1) _ i) ∧ wfC (upF br (op - 1) _ i)
                rw [e, upF_s]
                exact ⟨m6, wfC.B (hew.O hbw) hpb2 next⟩
              · show pcP I6 _ (upF br (op - 1) _ i) ∧ wfC (upF br (op - 1) _ i)
                rw [upF_n e]
                exact ⟨(((q3.k (k2 _ (by omega))).k (k4 _ (by omega))).k (f0 _ (by omega))).k (m7 _ (by omega) (by omega)), q4⟩
      · skip
        refine mx_aload_n (i := 0) (hi := rfl) (hl := rfl) (hd := dX3_readSign_61) ?_
        refine mx_dup (hva := rfl) (hd := dX3_readSign_62) ?_
        refine mx_getV (ci := 3) (k := 4) (nI op) dX3_readSign_63 k_145 (by decide) rfl (by assumption) h4 ?_
        refine mx_iconstN 1 dX3_readSign_66 (by decide) ?_
        refine mx_iaddN dX3_readSign_67 ?_
        refine mx_putI (ci := 3) (k := 4) dX3_readSign_68 k_145 (by decide) rfl rfl rfl rfl (by assumption) ?_
        refine mx_aload_n (i := 0) (hi := rfl) (hl := rfl) (hd := dX3_readSign_71) ?_
        refine mx_callVi (ci := 3) (As := []) (rest := []) dX3_readSign_72 (ct_rdBegin G _ o (op + 1) hs0 (by omega) (by rw [mx_u_at, if_pos ⟨rfl, rfl⟩])) km_X3_begin rfl k_819 k_821 k_20 (by assumption) rfl rfl (Nat.le_of_ble_eq_true rfl) (by decide) (fun r29 I5 h30 => ?_)
        obtain ⟨e9, m1, m2, m3⟩ := h30
        subst e9
        refine mx_goto (tgt := 175) dX3_readSign_75 (by decide) ?_
        refine mx_vret dX3_readSign_175 rfl (⟨⟨rfl, ?_, fun a h1 h2 => by rw [m3 a (by omega)]; funext k; rw [mx_u_at, if_neg (by omega)]⟩, rfl⟩)
        unfold rdS
        rw [if_neg (by show ¬ (peA c ∧ pL A < 20); omega), if_pos ⟨c49, by show op < 9; omega⟩]
        refine ⟨by show op + 1 ≤ 9; omega, ?_, ?_, (hA.fr (lo := o) (hi := o + 1) ((mx_fr.rf _ _ _).u (by omega)) (by omega)).fr m3 (by omega)⟩
        · rw [m3 o (by omega), mx_u_at, if_pos ⟨rfl, rfl⟩]
        · intro i hi
          have hi : i ≤ op + 1 := hi
          by_cases e : i = op + 1
          · subst e
            show (pcP I5 _ (upF en (op + 1) _ (op + 1)) ∧ wfC (upF en (op + 1) _ (op + 1))) ∧ (pcP I5 _ (upF br (op + 1) _ (op + 1)) ∧ wfC (upF br (op + 1) _ (op + 1)))
            rw [upF_s, upF_s]
            exact ⟨⟨m1, wfC_0 _⟩, m2, wfC_0 _⟩
          · obtain ⟨⟨q1, q2⟩, q3, q4⟩ := hps i (by show i ≤ op; omega)
            show (pcP I5 _ (upF en (op + 1) _ i) ∧ wfC (upF en (op + 1) _ i)) ∧ (pcP I5 _ (upF br (op + 1) _ i) ∧ wfC (upF br (op + 1) _ i))
            rw [upF_n e, upF_n e]
            have f0 : ∀ b, b ≠ o → mx_u I o 4 (nI (op + 1)) b = I b := fun b hb => by funext k; rw [mx_u_at, if_neg (by omega)]
            exact ⟨⟨(q1.k (f0 _ (by omega))).k (m3 _ (by omega)), q2⟩, (q3.k (f0 _ (by omega))).k (m3 _ (by omega)), q4⟩
  · skip
    refine mx_aload_n (i := 0) (hi := rfl) (hl := rfl) (hd := dX3_readSign_7) ?_
    refine mx_getR (ci := 3) (k := 3) (r := pt) dX3_readSign_8 k_144 (by decide) rfl (by assumption) (by assumption) (by omega) ?_
    refine mx_getV (ci := 2) (k := 2) (nI (pL A)) dX3_readSign_11 k_85 (by decide) rfl (by assumption) hA.2.2.1 ?_
    refine mx_bipushN 20 dX3_readSign_14 (by decide) ?_
    refine mx_cmpN_ge 46 dX3_readSign_16 (by decide) (by omega) (by omega) (fun c16 => ?_) (fun c16 => ?_)
    · skip
      refine mx_iload_n (i := 1) (hi := rfl) (hl := rfl) (hd := dX3_readSign_46) ?_
      refine mx_bipushN 40 dX3_readSign_47 (by decide) ?_
      refine mx_cmpN_ne 78 dX3_readSign_49 (by decide) (by omega) (by omega) (fun c49 => ?_) (fun c49 => ?_)
      · skip
        refine mx_iload_n (i := 1) (hi := rfl) (hl := rfl) (hd := dX3_readSign_78) ?_
        refine mx_bipushN 41 dX3_readSign_79 (by decide) ?_
        refine mx_cmpN_ne 133 dX3_readSign_81 (by decide) (by omega) (by omega) (fun c81 => ?_) (fun c81 => ?_)
        · skip
          refine mx_iload_n (i := 1) (hi := rfl) (hl := rfl) (hd := dX3_readSign_133) ?_
          refine mx_bipushN 124 dX3_readSign_134 (by decide) ?_
          refine mx_cmpN_ne 175 dX3_readSign_136 (by decide) (by omega) (by omega) (fun c136 => ?_) (fun c136 => ?_)
          · skip
            exact mx_vret dX3_readSign_175 rfl (⟨⟨rfl, by unfold rdS; rw [if_neg (by show ¬ (peA c ∧ pL A < 20); omega), if_neg (by show ¬ (c = 40 ∧ op < 9); omega), if_neg (by show ¬ (c = 41 ∧ 0 < op); omega), if_neg (by show ¬ c = 124; omega)]; exact ⟨hop, h4, hps, hA⟩, fun a _ _ => rfl⟩, rfl⟩)
          · skip
            refine mx_aload_n (i := 0) (hi := rfl) (hl := rfl) (hd := dX3_readSign_139) ?_
            refine mx_getR (ci := 3) (k := 0) (r := (o + 1)) dX3_readSign_140 k_141 (by decide) rfl (by assumption) (by assumption) (by omega) ?_
            refine mx_aload_n (i := 0) (hi := rfl) (hl := rfl) (hd := dX3_readSign_143) ?_
            refine mx_getV (ci := 3) (k := 4) (nI op) dX3_readSign_144 k_145 (by decide) rfl (by assumption) h4 ?_
            refine mx_aald (r := (o + 9 + 2 * op)) op dX3_readSign_147 (by assumption) (by decide) ⟨rfl, by omega, by omega⟩ (he1) (by omega) ?_
            refine mx_aload_n (i := 0) (hi := rfl) (hl := rfl) (hd := dX3_readSign_148) ?_
            refine mx_getR (ci := 3) (k := 1) (r := (o + 2)) dX3_readSign_149 k_142 (by decide) rfl (by assumption) (by assumption) (by omega) ?_
            refine mx_aload_n (i := 0) (hi := rfl) (hl := rfl) (hd := dX3_readSign_152) ?_
            refine mx_getV (ci := 3) (k := 4) (nI op) dX3_readSign_153 k_145 (by decide) rfl (by assumption) h4 ?_
            refine mx_aald (r := (o + 10 + 2 * op)) op dX3_readSign_156 (by assumption) (by decide) ⟨rfl, by omega, by omega⟩ (hb1) (by omega) ?_
            refine mx_callVi (ci := 4) (As := [.ref (o + 10 + 2 * op)]) (rest := []) dX3_readSign_157 (ct_orElse G I (o + 9 + 2 * op) (o + 10 + 2 * op) (en op).1 (en op).2.1 (br op).1 (br op).2.1 (en op).2.2 (br op).2.2 he2 hb2 hen hbr) km_X4_orElse rfl k_848 k_849 k_850 (by assumption) rfl rfl (Nat.le_of_ble_eq_true rfl) (by decide) (fun r31 I7 h32 => ?_)
            obtain ⟨e9, k1, k2⟩ := h32
            subst e9
            have h47 : I7 o 4 = nI op := by rw [k2 o (by omega)]; exact h4
            refine mx_aload_n (i := 0) (hi := rfl) (hl := rfl) (hd := dX3_readSign_160) ?_
            refine mx_getR (ci := 3) (k := 1) (r := (o + 2)) dX3_readSign_161 k_142 (by decide) rfl (by assumption) (by assumption) (by omega) ?_
            refine mx_aload_n (i := 0) (hi := rfl) (hl := rfl) (hd := dX3_readSign_164) ?_
            refine mx_getV (ci := 3) (k := 4) (nI op) dX3_readSign_165 k_145 (by decide) rfl (by assumption) h47 ?_
            refine mx_aald (r := (o + 10 + 2 * op)) op dX3_readSign_168 (by assumption) (by decide) ⟨rfl, by omega, by omega⟩ (hb1) (by omega) ?_
            refine mx_iconstN 0 dX3_readSign_169 (by decide) ?_
            refine mx_iconstN 0 dX3_readSign_170 (by decide) ?_
            refine mx_iconstN 1 dX3_readSign_171 (by decide) ?_
            refine mx_top (y := mx_b (decide (true = true))) (by decide) ?_
            refine mx_callVi (ci := 4) (As := [.int (nI 0), .int (nI 0), .int (mx_b (decide (true = true)))]) (rest := []) dX3_readSign_172 (ct_become G I7 (o + 10 + 2 * op) 0 0 true hb2) km_X4_become rfl k_823 k_824 k_825 (by assumption) rfl rfl (Nat.le_of_ble_eq_true rfl) (by decide) (fun r33 I8 h34 => ?_)
            obtain ⟨e9, k3, k4⟩ := h34
            subst e9
            refine mx_vret dX3_readSign_175 rfl (⟨⟨rfl, ?_, fun a h1 h2 => by rw [k4 a (by omega), k2 a (by omega)]⟩, rfl⟩)
            unfold rdS
            rw [if_neg (by show ¬ (peA c ∧ pL A < 20); omega), if_neg (by show ¬ (c = 40 ∧ op < 9); omega), if_neg (by show ¬ (c = 41 ∧ 0 < op); omega), if_pos c136]
            refine ⟨hop, ?_, ?_, (hA.fr k2 (by omega)).fr k4 (by omega)⟩
            · rw [k4 o (by omega)]; exact h47
            · intro i hi
              have hi : i ≤ op := hi
              obtain ⟨⟨q1, q2⟩, q3, q4⟩ := hps i hi
              by_cases e : i = op
              · subst e
                show (pcP I8 _ (upF en i _ i) ∧ wfC (upF en i _ i)) ∧ (pcP I8 _ (upF br i _ i) ∧ wfC (upF br i _ i))
                rw [upF_s, upF_s]
                exact ⟨⟨pcP.k (x := rdO (en i) (br i)) k1 (k4 _ (by omega)), hew.O hbw⟩, k3, wfC_0 _⟩
              · show (pcP I8 _ (upF en op _ i) ∧ wfC (upF en op _ i)) ∧ (pcP I8 _ (upF br op _ i) ∧ wfC (upF br op _ i))
                rw [upF_n e, upF_n e]
                exact ⟨⟨(q1.k (k2 _ (by omega))).k (k4 _ (by omega)), q2⟩, (q3.k (k2 _ (by omega))).k (k4 _ (by omega)), q4⟩
        · skip
          refine mx_aload_n (i := 0) (hi := rfl) (hl := rfl) (hd := dX3_readSign_84) ?_
          refine mx_getV (ci := 3) (k := 4) (nI op) dX3_readSign_85 k_145 (by decide) rfl (by assumption) h4 ?_
          refine mx_ifN_le 133 dX3_readSign_88 (by decide) (by omega) (fun c88 => ?_) (fun c88 => ?_)
          · skip
            refine mx_iload_n (i := 1) (hi := rfl) (hl := rfl) (hd := dX3_readSign_133) ?_
            refine mx_bipushN 124 dX3_readSign_134 (by decide) ?_
            refine mx_cmpN_ne 175 dX3_readSign_136 (by decide) (by omega) (by omega) (fun c136 => ?_) (fun c136 => ?_)
            · skip
              exact mx_vret dX3_readSign_175 rfl (⟨⟨rfl, by unfold rdS; rw [if_neg (by show ¬ (peA c ∧ pL A < 20); omega), if_neg (by show ¬ (c = 40 ∧ op < 9); omega), if_neg (by show ¬ (c = 41 ∧ 0 < op); omega), if_neg (by show ¬ c = 124; omega)]; exact ⟨hop, h4, hps, hA⟩, fun a _ _ => rfl⟩, rfl⟩)
            · skip
              refine mx_aload_n (i := 0) (hi := rfl) (hl := rfl) (hd := dX3_readSign_139) ?_
              refine mx_getR (ci := 3) (k := 0) (r := (o + 1)) dX3_readSign_140 k_141 (by decide) rfl (by assumption) (by assumption) (by omega) ?_
              refine mx_aload_n (i := 0) (hi := rfl) (hl := rfl) (hd := dX3_readSign_143) ?_
              refine mx_getV (ci := 3) (k := 4) (nI op) dX3_readSign_144 k_145 (by decide) rfl (by assumption) h4 ?_
              refine mx_aald (r := (o + 9 + 2 * op)) op dX3_readSign_147 (by assumption) (by decide) ⟨rfl, by omega, by omega⟩ (he1) (by omega) ?_
              refine mx_aload_n (i := 0) (hi := rfl) (hl := rfl) (hd := dX3_readSign_148) ?_
              refine mx_getR (ci := 3) (k := 1) (r := (o + 2)) dX3_readSign_149 k_142 (by decide) rfl (by assumption) (by assumption) (by omega) ?_
              refine mx_aload_n (i := 0) (hi := rfl) (hl := rfl) (hd := dX3_readSign_152) ?_
              refine mx_getV (ci := 3) (k := 4) (nI op) dX3_readSign_153 k_145 (by decide) rfl (by assumption) h4 ?_
              refine mx_aald (r := (o + 10 + 2 * op)) op dX3_readSign_156 (by assumption) (by decide) ⟨rfl, by omega, by omega⟩ (hb1) (by omega) ?_
              refine mx_callVi (ci := 4) (As := [.ref (o + 10 + 2 * op)]) (rest := []) dX3_readSign_157 (ct_orElse G I (o + 9 + 2 * op) (o + 10 + 2 * op) (en op).1 (en op).2.1 (br op).1 (br op).2.1 (en op).2.2 (br op).2.2 he2 hb2 hen hbr) km_X4_orElse rfl k_848 k_849 k_850 (by assumption) rfl rfl (Nat.le_of_ble_eq_true rfl) (by decide) (fun r35 I7 h36 => ?_)
              obtain ⟨e9, k1, k2⟩ := h36
              subst e9
              have h47 : I7 o 4 = nI op := by rw [k2 o (by omega)]; exact h4
              refine mx_aload_n (i := 0) (hi := rfl) (hl := rfl) (hd := dX3_readSign_160) ?_
              refine mx_getR (ci := 3) (k := 1) (r := (o + 2)) dX3_readSign_161 k_142 (by decide) rfl (by assumption) (by assumption) (by omega) ?_
              refine mx_aload_n (i := 0) (hi := rfl) (hl := rfl) (hd := dX3_readSign_164) ?_
              refine mx_getV (ci := 3) (k := 4) (nI op) dX3_readSign_165 k_145 (by decide) rfl (by assumption) h47 ?_
              refine mx_aald (r := (o + 10 + 2 * op)) op dX3_readSign_168 (by assumption) (by decide) ⟨rfl, by omega, by omega⟩ (hb1) (by omega) ?_
              refine mx_iconstN 0 dX3_readSign_169 (by decide) ?_
              refine mx_iconstN 0 dX3_readSign_170 (by decide) ?_
              refine mx_iconstN 1 dX3_readSign_171 (by decide) ?_
              refine mx_top (y := mx_b (decide (true = true))) (by decide) ?_
              refine mx_callVi (ci := 4) (As := [.int (nI 0), .int (nI 0), .int (mx_b (decide (true = true)))]) (rest := []) dX3_readSign_172 (ct_become G I7 (o + 10 + 2 * op) 0 0 true hb2) km_X4_become rfl k_823 k_824 k_825 (by assumption) rfl rfl (Nat.le_of_ble_eq_true rfl) (by decide) (fun r37 I8 h38 => ?_)
              obtain ⟨e9, k3, k4⟩ := h38
              subst e9
              refine mx_vret dX3_readSign_175 rfl (⟨⟨rfl, ?_, fun a h1 h2 => by rw [k4 a (by omega), k2 a (by omega)]⟩, rfl⟩)
              unfold rdS
              rw [if_neg (by show ¬ (peA c ∧ pL A < 20); omega), if_neg (by show ¬ (c = 40 ∧ op < 9); omega), if_neg (by show ¬ (c = 41 ∧ 0 < op); omega), if_pos c136]
              refine ⟨hop, ?_, ?_, (hA.fr k2 (by omega)).fr k4 (by omega)⟩
              · rw [k4 o (by omega)]; exact h47
              · intro i hi
                have hi : i ≤ op := hi
                obtain ⟨⟨q1, q2⟩, q3, q4⟩ := hps i hi
                by_cases e : i = op
                · subst e
                  show (pcP I8 _ (upF en i _ i) ∧ wfC (upF en i _ i)) ∧ (pcP I8 _ (upF br i _ i) ∧ wfC (upF br i _ i))
                  rw [upF_s, upF_s]
                  exact ⟨⟨pcP.k (x := rdO (en i) (br i)) k1 (k4 _ (by omega)), hew.O hbw⟩, k3, wfC_0 _⟩
                · show (pcP I8 _ (upF en op _ i) ∧ wfC (upF en op _ i)) ∧ (pcP I8 _ (upF br op _ i) ∧ wfC (upF br op _ i))
                  rw [upF_n e, upF_n e]
                  exact ⟨⟨(q1.k (k2 _ (by omega))).k (k4 _ (by omega)), q2⟩, (q3.k (k2 _ (by omega))).k (k4 _ (by omega)), q4⟩
          · skip
            refine mx_aload_n (i := 0) (hi := rfl) (hl := rfl) (hd := dX3_readSign_91) ?_
            refine mx_callVi (ci := 3) (As := []) (rest := []) dX3_readSign_92 (ct_rdClosed G I o op hs0 hop h4 (en op) (br op) hen hbr) km_X3_closed rfl k_844 k_846 k_23 (by assumption) rfl rfl (Nat.le_of_ble_eq_true rfl) (by decide) (fun r39 I2 h40 => ?_)
            obtain ⟨e9, k1, k2⟩ := h40
            subst e9
            refine mx_astoreE_n (i := 3) (ls' := [some (.ref o), some (.int (nI c)), some (.int (nI next)), some (.ref (o + 9 + 2 * op))]) (hi := rfl) (hd := dX3_readSign_95) (hn := by decide) (hok := rfl) (hls := rfl) ?_
            refine mx_aload_n (i := 0) (hi := rfl) (hl := rfl) (hd := dX3_readSign_96) ?_
            refine mx_getR (ci := 3) (k := 2) (r := (o + 3)) dX3_readSign_97 k_143 (by decide) rfl (by assumption) (by assumption) (by omega) ?_
            refine mx_aload_n (i := 3) (hi := rfl) (hl := rfl) (hd := dX3_readSign_100) ?_
            refine mx_getV (ci := 4) (k := 0) (nI ((rdO (en op) (br op)).1)) dX3_readSign_101 k_127 (by decide) rfl (by assumption) k1.1 ?_
            refine mx_aload_n (i := 3) (hi := rfl) (hl := rfl) (hd := dX3_readSign_104) ?_
            refine mx_getV (ci := 4) (k := 1) (nI ((rdO (en op) (br op)).2.1)) dX3_readSign_105 k_129 (by decide) rfl (by assumption) k1.2.1 ?_
            refine mx_aload_n (i := 3) (hi := rfl) (hl := rfl) (hd := dX3_readSign_108) ?_
            refine mx_getV (ci := 4) (k := 2) (mx_b (decide ((rdO (en op) (br op)).2.2 = true)) : Int32) dX3_readSign_109 k_131 (by decide) rfl (by assumption) (by rw [mx_dec]; exact k1.2.2) ?_
            refine mx_callVi (ci := 4) (As := [.int (nI ((rdO (en op) (br op)).1)), .int (nI ((rdO (en op) (br op)).2.1)), .int (mx_b (decide ((rdO (en op) (br op)).2.2 = true)))]) (rest := []) dX3_readSign_112 (ct_become G I2 (o + 3) (rdO (en op) (br op)).1 (rdO (en op) (br op)).2.1 (rdO (en op) (br op)).2.2 hg8) km_X4_become rfl k_823 k_824 k_825 (by assumption) rfl rfl (Nat.le_of_ble_eq_true rfl) (by decide) (fun r41 I3 h42 => ?_)
            obtain ⟨e9, k3, k4⟩ := h42
            subst e9
            obtain ⟨⟨hpe1, hpe2⟩, hpb1, hpb2⟩ := hps (op - 1) (by show op - 1 ≤ op; omega)
            refine mx_aload_n (i := 0) (hi := rfl) (hl := rfl) (hd := dX3_readSign_115) ?_
            refine mx_dup (hva := rfl) (hd := dX3_readSign_116) ?_
            refine mx_getV (ci := 3) (k := 4) (nI op) dX3_readSign_117 k_145 (by decide) rfl (by assumption) (by rw [k4 o (by omega), k2 o (by omega)]; exact h4) ?_
            refine mx_iconstN 1 dX3_readSign_120 (by decide) ?_
            refine mx_isubN dX3_readSign_121 (by omega) ?_
            refine mx_putI (ci := 3) (k := 4) dX3_readSign_122 k_145 (by decide) rfl rfl rfl rfl (by assumption) ?_
            refine mx_aload_n (i := 0) (hi := rfl) (hl := rfl) (hd := dX3_readSign_125) ?_
            refine mx_iload_n (i := 2) (hi := rfl) (hl := rfl) (hd := dX3_readSign_126) ?_
            refine mx_callVi (ci := 3) (As := [.int (nI next)]) (rest := []) dX3_readSign_127 (ct_rdAdd G _ o (op - 1) hs0 (by omega) (by rw [mx_u_at, if_pos ⟨rfl, rfl⟩]) pt next A (rdO (en op) (br op)) (br (op - 1)) hr3 hpt hpd (((hA.fr k2 (by omega)).fr k4 (by omega)).fr (lo := o) (hi := o + 1) ((mx_fr.rf _ _ _).u (by omega)) (by omega)) (pcN.fr (lo := o) (hi := o + 1) k3 ((mx_fr.rf _ _ _).u (by omega)) (by omega)) (pcN.fr (lo := o) (hi := o + 1) ((hpb1.k (k2 _ (by omega))).k (k4 _ (by omega))) ((mx_fr.rf _ _ _).u (by omega)) (by omega)) (hew.O hbw) hpb2 hnx) km_X3_addPart rfl k_836 k_838 k_22 (by assumption) rfl rfl (Nat.le_of_ble_eq_true rfl) (by decide) (fun r43 I6 h44 => ?_)
            obtain ⟨e9, m5, m6, m7⟩ := h44
            subst e9
            refine mx_goto (tgt := 175) dX3_readSign_130 (by decide) ?_
            refine mx_vret dX3_readSign_175 rfl (⟨⟨rfl, ?_, fun a h1 h2 => by rw [m7 a h2 (by omega)]; funext k; rw [mx_u_at, if_neg (by omega), k4 a (by omega), k2 a (by omega)]⟩, rfl⟩)
            unfold rdS
            rw [if_neg (by show ¬ (peA c ∧ pL A < 20); omega), if_neg (by show ¬ (c = 40 ∧ op < 9); omega), if_pos ⟨c81, by show 0 < op; omega⟩]
            refine ⟨by show op - 1 ≤ 9; omega, ?_, ?_, m5⟩
            · rw [m7 o (by omega) (by omega), mx_u_at, if_pos ⟨rfl, rfl⟩]
            · intro i hi
              have hi : i ≤ op - 1 := hi
              obtain ⟨⟨q1, q2⟩, q3, q4⟩ := hps i (by show i ≤ op; omega)
              have f0 : ∀ b, b ≠ o → mx_u I3 o 4 (nI (op - 1)) b = I3 b := fun b hb => by funext k; rw [mx_u_at, if_neg (by omega)]
              refine ⟨⟨(((q1.k (k2 _ (by omega))).k (k4 _ (by omega))).k (f0 _ (by omega))).k (m7 _ (by omega) (by omega)), q2⟩, ?_⟩
              by_cases e : i = op - 1
              · show pcP I6 _ (upF br (op - 1) _ i) ∧ wfC (upF br (op - 1) _ i)
                rw [e, upF_s]
                exact ⟨m6, wfC.B (hew.O hbw) hpb2 next⟩
              · show pcP I6 _ (upF br (op - 1) _ i) ∧ wfC (upF br (op - 1) _ i)
                rw [upF_n e]
                exact ⟨(((q3.k (k2 _ (by omega))).k (k4 _ (by omega))).k (f0 _ (by omega))).k (m7 _ (by omega) (by omega)), q4⟩
      · skip
        refine mx_aload_n (i := 0) (hi := rfl) (hl := rfl) (hd := dX3_readSign_52) ?_
        refine mx_getV (ci := 3) (k := 4) (nI op) dX3_readSign_53 k_145 (by decide) rfl (by assumption) h4 ?_
        refine mx_bipushN 9 dX3_readSign_56 (by decide) ?_
        refine mx_cmpN_ge 78 dX3_readSign_58 (by decide) (by omega) (by omega) (fun c58 => ?_) (fun c58 => ?_)
        · skip
          refine mx_iload_n (i := 1) (hi := rfl) (hl := rfl) (hd := dX3_readSign_78) ?_
          refine mx_bipushN 41 dX3_readSign_79 (by decide) ?_
          refine mx_cmpN_ne 133 dX3_readSign_81 (by decide) (by omega) (by omega) (fun c81 => ?_) (fun c81 => ?_)
          · skip
            refine mx_iload_n (i := 1) (hi := rfl) (hl := rfl) (hd := dX3_readSign_133) ?_
            refine mx_bipushN 124 dX3_readSign_134 (by decide) ?_
            refine mx_cmpN_ne 175 dX3_readSign_136 (by decide) (by omega) (by omega) (fun c136 => ?_) (fun c136 => ?_)
            · skip
              exact mx_vret dX3_readSign_175 rfl (⟨⟨rfl, by unfold rdS; rw [if_neg (by show ¬ (peA c ∧ pL A < 20); omega), if_neg (by show ¬ (c = 40 ∧ op < 9); omega), if_neg (by show ¬ (c = 41 ∧ 0 < op); omega), if_neg (by show ¬ c = 124; omega)]; exact ⟨hop, h4, hps, hA⟩, fun a _ _ => rfl⟩, rfl⟩)
            · skip
              refine mx_aload_n (i := 0) (hi := rfl) (hl := rfl) (hd := dX3_readSign_139) ?_
              refine mx_getR (ci := 3) (k := 0) (r := (o + 1)) dX3_readSign_140 k_141 (by decide) rfl (by assumption) (by assumption) (by omega) ?_
              refine mx_aload_n (i := 0) (hi := rfl) (hl := rfl) (hd := dX3_readSign_143) ?_
              refine mx_getV (ci := 3) (k := 4) (nI op) dX3_readSign_144 k_145 (by decide) rfl (by assumption) h4 ?_
              refine mx_aald (r := (o + 9 + 2 * op)) op dX3_readSign_147 (by assumption) (by decide) ⟨rfl, by omega, by omega⟩ (he1) (by omega) ?_
              refine mx_aload_n (i := 0) (hi := rfl) (hl := rfl) (hd := dX3_readSign_148) ?_
              refine mx_getR (ci := 3) (k := 1) (r := (o + 2)) dX3_readSign_149 k_142 (by decide) rfl (by assumption) (by assumption) (by omega) ?_
              refine mx_aload_n (i := 0) (hi := rfl) (hl := rfl) (hd := dX3_readSign_152) ?_
              refine mx_getV (ci := 3) (k := 4) (nI op) dX3_readSign_153 k_145 (by decide) rfl (by assumption) h4 ?_
              refine mx_aald (r := (o + 10 + 2 * op)) op dX3_readSign_156 (by assumption) (by decide) ⟨rfl, by omega, by omega⟩ (hb1) (by omega) ?_
              refine mx_callVi (ci := 4) (As := [.ref (o + 10 + 2 * op)]) (rest := []) dX3_readSign_157 (ct_orElse G I (o + 9 + 2 * op) (o + 10 + 2 * op) (en op).1 (en op).2.1 (br op).1 (br op).2.1 (en op).2.2 (br op).2.2 he2 hb2 hen hbr) km_X4_orElse rfl k_848 k_849 k_850 (by assumption) rfl rfl (Nat.le_of_ble_eq_true rfl) (by decide) (fun r45 I7 h46 => ?_)
              obtain ⟨e9, k1, k2⟩ := h46
              subst e9
              have h47 : I7 o 4 = nI op := by rw [k2 o (by omega)]; exact h4
              refine mx_aload_n (i := 0) (hi := rfl) (hl := rfl) (hd := dX3_readSign_160) ?_
              refine mx_getR (ci := 3) (k := 1) (r := (o + 2)) dX3_readSign_161 k_142 (by decide) rfl (by assumption) (by assumption) (by omega) ?_
              refine mx_aload_n (i := 0) (hi := rfl) (hl := rfl) (hd := dX3_readSign_164) ?_
              refine mx_getV (ci := 3) (k := 4) (nI op) dX3_readSign_165 k_145 (by decide) rfl (by assumption) h47 ?_
              refine mx_aald (r := (o + 10 + 2 * op)) op dX3_readSign_168 (by assumption) (by decide) ⟨rfl, by omega, by omega⟩ (hb1) (by omega) ?_
              refine mx_iconstN 0 dX3_readSign_169 (by decide) ?_
              refine mx_iconstN 0 dX3_readSign_170 (by decide) ?_
              refine mx_iconstN 1 dX3_readSign_171 (by decide) ?_
              refine mx_top (y := mx_b (decide (true = true))) (by decide) ?_
              refine mx_callVi (ci := 4) (As := [.int (nI 0), .int (nI 0), .int (mx_b (decide (true = true)))]) (rest := []) dX3_readSign_172 (ct_become G I7 (o + 10 + 2 * op) 0 0 true hb2) km_X4_become rfl k_823 k_824 k_825 (by assumption) rfl rfl (Nat.le_of_ble_eq_true rfl) (by decide) (fun r47 I8 h48 => ?_)
              obtain ⟨e9, k3, k4⟩ := h48
              subst e9
              refine mx_vret dX3_readSign_175 rfl (⟨⟨rfl, ?_, fun a h1 h2 => by rw [k4 a (by omega), k2 a (by omega)]⟩, rfl⟩)
              unfold rdS
              rw [if_neg (by show ¬ (peA c ∧ pL A < 20); omega), if_neg (by show ¬ (c = 40 ∧ op < 9); omega), if_neg (by show ¬ (c = 41 ∧ 0 < op); omega), if_pos c136]
              refine ⟨hop, ?_, ?_, (hA.fr k2 (by omega)).fr k4 (by omega)⟩
              · rw [k4 o (by omega)]; exact h47
              · intro i hi
                have hi : i ≤ op := hi
                obtain ⟨⟨q1, q2⟩, q3, q4⟩ := hps i hi
                by_cases e : i = op
                · subst e
                  show (pcP I8 _ (upF en i _ i) ∧ wfC (upF en i _ i)) ∧ (pcP I8 _ (upF br i _ i) ∧ wfC (upF br i _ i))
                  rw [upF_s, upF_s]
                  exact ⟨⟨pcP.k (x := rdO (en i) (br i)) k1 (k4 _ (by omega)), hew.O hbw⟩, k3, wfC_0 _⟩
                · show (pcP I8 _ (upF en op _ i) ∧ wfC (upF en op _ i)) ∧ (pcP I8 _ (upF br op _ i) ∧ wfC (upF br op _ i))
                  rw [upF_n e, upF_n e]
                  exact ⟨⟨(q1.k (k2 _ (by omega))).k (k4 _ (by omega)), q2⟩, (q3.k (k2 _ (by omega))).k (k4 _ (by omega)), q4⟩
          · skip
            refine mx_aload_n (i := 0) (hi := rfl) (hl := rfl) (hd := dX3_readSign_84) ?_
            refine mx_getV (ci := 3) (k := 4) (nI op) dX3_readSign_85 k_145 (by decide) rfl (by assumption) h4 ?_
            refine mx_ifN_le 133 dX3_readSign_88 (by decide) (by omega) (fun c88 => ?_) (fun c88 => ?_)
            · skip
              refine mx_iload_n (i := 1) (hi := rfl) (hl := rfl) (hd := dX3_readSign_133) ?_
              refine mx_bipushN 124 dX3_readSign_134 (by decide) ?_
              refine mx_cmpN_ne 175 dX3_readSign_136 (by decide) (by omega) (by omega) (fun c136 => ?_) (fun c136 => ?_)
              · skip
                exact mx_vret dX3_readSign_175 rfl (⟨⟨rfl, by unfold rdS; rw [if_neg (by show ¬ (peA c ∧ pL A < 20); omega), if_neg (by show ¬ (c = 40 ∧ op < 9); omega), if_neg (by show ¬ (c = 41 ∧ 0 < op); omega), if_neg (by show ¬ c = 124; omega)]; exact ⟨hop, h4, hps, hA⟩, fun a _ _ => rfl⟩, rfl⟩)
              · skip
                refine mx_aload_n (i := 0) (hi := rfl) (hl := rfl) (hd := dX3_readSign_139) ?_
                refine mx_getR (ci := 3) (k := 0) (r := (o + 1)) dX3_readSign_140 k_141 (by decide) rfl (by assumption) (by assumption) (by omega) ?_
                refine mx_aload_n (i := 0) (hi := rfl) (hl := rfl) (hd := dX3_readSign_143) ?_
                refine mx_getV (ci := 3) (k := 4) (nI op) dX3_readSign_144 k_145 (by decide) rfl (by assumption) h4 ?_
                refine mx_aald (r := (o + 9 + 2 * op)) op dX3_readSign_147 (by assumption) (by decide) ⟨rfl, by omega, by omega⟩ (he1) (by omega) ?_
                refine mx_aload_n (i := 0) (hi := rfl) (hl := rfl) (hd := dX3_readSign_148) ?_
                refine mx_getR (ci := 3) (k := 1) (r := (o + 2)) dX3_readSign_149 k_142 (by decide) rfl (by assumption) (by assumption) (by omega) ?_
                refine mx_aload_n (i := 0) (hi := rfl) (hl := rfl) (hd := dX3_readSign_152) ?_
                refine mx_getV (ci := 3) (k := 4) (nI op) dX3_readSign_153 k_145 (by decide) rfl (by assumption) h4 ?_
                refine mx_aald (r := (o + 10 + 2 * op)) op dX3_readSign_156 (by assumption) (by decide) ⟨rfl, by omega, by omega⟩ (hb1) (by omega) ?_
                refine mx_callVi (ci := 4) (As := [.ref (o + 10 + 2 * op)]) (rest := []) dX3_readSign_157 (ct_orElse G I (o + 9 + 2 * op) (o + 10 + 2 * op) (en op).1 (en op).2.1 (br op).1 (br op).2.1 (en op).2.2 (br op).2.2 he2 hb2 hen hbr) km_X4_orElse rfl k_848 k_849 k_850 (by assumption) rfl rfl (Nat.le_of_ble_eq_true rfl) (by decide) (fun r49 I7 h50 => ?_)
                obtain ⟨e9, k1, k2⟩ := h50
                subst e9
                have h47 : I7 o 4 = nI op := by rw [k2 o (by omega)]; exact h4
                refine mx_aload_n (i := 0) (hi := rfl) (hl := rfl) (hd := dX3_readSign_160) ?_
                refine mx_getR (ci := 3) (k := 1) (r := (o + 2)) dX3_readSign_161 k_142 (by decide) rfl (by assumption) (by assumption) (by omega) ?_
                refine mx_aload_n (i := 0) (hi := rfl) (hl := rfl) (hd := dX3_readSign_164) ?_
                refine mx_getV (ci := 3) (k := 4) (nI op) dX3_readSign_165 k_145 (by decide) rfl (by assumption) h47 ?_
                refine mx_aald (r := (o + 10 + 2 * op)) op dX3_readSign_168 (by assumption) (by decide) ⟨rfl, by omega, by omega⟩ (hb1) (by omega) ?_
                refine mx_iconstN 0 dX3_readSign_169 (by decide) ?_
                refine mx_iconstN 0 dX3_readSign_170 (by decide) ?_
                refine mx_iconstN 1 dX3_readSign_171 (by decide) ?_
                refine mx_top (y := mx_b (decide (true = true))) (by decide) ?_
                refine mx_callVi (ci := 4) (As := [.int (nI 0), .int (nI 0), .int (mx_b (decide (true = true)))]) (rest := []) dX3_readSign_172 (ct_become G I7 (o + 10 + 2 * op) 0 0 true hb2) km_X4_become rfl k_823 k_824 k_825 (by assumption) rfl rfl (Nat.le_of_ble_eq_true rfl) (by decide) (fun r51 I8 h52 => ?_)
                obtain ⟨e9, k3, k4⟩ := h52
                subst e9
                refine mx_vret dX3_readSign_175 rfl (⟨⟨rfl, ?_, fun a h1 h2 => by rw [k4 a (by omega), k2 a (by omega)]⟩, rfl⟩)
                unfold rdS
                rw [if_neg (by show ¬ (peA c ∧ pL A < 20); omega), if_neg (by show ¬ (c = 40 ∧ op < 9); omega), if_neg (by show ¬ (c = 41 ∧ 0 < op); omega), if_pos c136]
                refine ⟨hop, ?_, ?_, (hA.fr k2 (by omega)).fr k4 (by omega)⟩
                · rw [k4 o (by omega)]; exact h47
                · intro i hi
                  have hi : i ≤ op := hi
                  obtain ⟨⟨q1, q2⟩, q3, q4⟩ := hps i hi
                  by_cases e : i = op
                  · subst e
                    show (pcP I8 _ (upF en i _ i) ∧ wfC (upF en i _ i)) ∧ (pcP I8 _ (upF br i _ i) ∧ wfC (upF br i _ i))
                    rw [upF_s, upF_s]
                    exact ⟨⟨pcP.k (x := rdO (en i) (br i)) k1 (k4 _ (by omega)), hew.O hbw⟩, k3, wfC_0 _⟩
                  · show (pcP I8 _ (upF en op _ i) ∧ wfC (upF en op _ i)) ∧ (pcP I8 _ (upF br op _ i) ∧ wfC (upF br op _ i))
                    rw [upF_n e, upF_n e]
                    exact ⟨⟨(q1.k (k2 _ (by omega))).k (k4 _ (by omega)), q2⟩, (q3.k (k2 _ (by omega))).k (k4 _ (by omega)), q4⟩
            · skip
              refine mx_aload_n (i := 0) (hi := rfl) (hl := rfl) (hd := dX3_readSign_91) ?_
              refine mx_callVi (ci := 3) (As := []) (rest := []) dX3_readSign_92 (ct_rdClosed G I o op hs0 hop h4 (en op) (br op) hen hbr) km_X3_closed rfl k_844 k_846 k_23 (by assumption) rfl rfl (Nat.le_of_ble_eq_true rfl) (by decide) (fun r53 I2 h54 => ?_)
              obtain ⟨e9, k1, k2⟩ := h54
              subst e9
              refine mx_astoreE_n (i := 3) (ls' := [some (.ref o), some (.int (nI c)), some (.int (nI next)), some (.ref (o + 9 + 2 * op))]) (hi := rfl) (hd := dX3_readSign_95) (hn := by decide) (hok := rfl) (hls := rfl) ?_
              refine mx_aload_n (i := 0) (hi := rfl) (hl := rfl) (hd := dX3_readSign_96) ?_
              refine mx_getR (ci := 3) (k := 2) (r := (o + 3)) dX3_readSign_97 k_143 (by decide) rfl (by assumption) (by assumption) (by omega) ?_
              refine mx_aload_n (i := 3) (hi := rfl) (hl := rfl) (hd := dX3_readSign_100) ?_
              refine mx_getV (ci := 4) (k := 0) (nI ((rdO (en op) (br op)).1)) dX3_readSign_101 k_127 (by decide) rfl (by assumption) k1.1 ?_
              refine mx_aload_n (i := 3) (hi := rfl) (hl := rfl) (hd := dX3_readSign_104) ?_
              refine mx_getV (ci := 4) (k := 1) (nI ((rdO (en op) (br op)).2.1)) dX3_readSign_105 k_129 (by decide) rfl (by assumption) k1.2.1 ?_
              refine mx_aload_n (i := 3) (hi := rfl) (hl := rfl) (hd := dX3_readSign_108) ?_
              refine mx_getV (ci := 4) (k := 2) (mx_b (decide ((rdO (en op) (br op)).2.2 = true)) : Int32) dX3_readSign_109 k_131 (by decide) rfl (by assumption) (by rw [mx_dec]; exact k1.2.2) ?_
              refine mx_callVi (ci := 4) (As := [.int (nI ((rdO (en op) (br op)).1)), .int (nI ((rdO (en op) (br op)).2.1)), .int (mx_b (decide ((rdO (en op) (br op)).2.2 = true)))]) (rest := []) dX3_readSign_112 (ct_become G I2 (o + 3) (rdO (en op) (br op)).1 (rdO (en op) (br op)).2.1 (rdO (en op) (br op)).2.2 hg8) km_X4_become rfl k_823 k_824 k_825 (by assumption) rfl rfl (Nat.le_of_ble_eq_true rfl) (by decide) (fun r55 I3 h56 => ?_)
              obtain ⟨e9, k3, k4⟩ := h56
              subst e9
              obtain ⟨⟨hpe1, hpe2⟩, hpb1, hpb2⟩ := hps (op - 1) (by show op - 1 ≤ op; omega)
              refine mx_aload_n (i := 0) (hi := rfl) (hl := rfl) (hd := dX3_readSign_115) ?_
              refine mx_dup (hva := rfl) (hd := dX3_readSign_116) ?_
              refine mx_getV (ci := 3) (k := 4) (nI op) dX3_readSign_117 k_145 (by decide) rfl (by assumption) (by rw [k4 o (by omega), k2 o (by omega)]; exact h4) ?_
              refine mx_iconstN 1 dX3_readSign_120 (by decide) ?_
              refine mx_isubN dX3_readSign_121 (by omega) ?_
              refine mx_putI (ci := 3) (k := 4) dX3_readSign_122 k_145 (by decide) rfl rfl rfl rfl (by assumption) ?_
              refine mx_aload_n (i := 0) (hi := rfl) (hl := rfl) (hd := dX3_readSign_125) ?_
              refine mx_iload_n (i := 2) (hi := rfl) (hl := rfl) (hd := dX3_readSign_126) ?_
              refine mx_callVi (ci := 3) (As := [.int (nI next)]) (rest := []) dX3_readSign_127 (ct_rdAdd G _ o (op - 1) hs0 (by omega) (by rw [mx_u_at, if_pos ⟨rfl, rfl⟩]) pt next A (rdO (en op) (br op)) (br (op - 1)) hr3 hpt hpd (((hA.fr k2 (by omega)).fr k4 (by omega)).fr (lo := o) (hi := o + 1) ((mx_fr.rf _ _ _).u (by omega)) (by omega)) (pcN.fr (lo := o) (hi := o + 1) k3 ((mx_fr.rf _ _ _).u (by omega)) (by omega)) (pcN.fr (lo := o) (hi := o + 1) ((hpb1.k (k2 _ (by omega))).k (k4 _ (by omega))) ((mx_fr.rf _ _ _).u (by omega)) (by omega)) (hew.O hbw) hpb2 hnx) km_X3_addPart rfl k_836 k_838 k_22 (by assumption) rfl rfl (Nat.le_of_ble_eq_true rfl) (by decide) (fun r57 I6 h58 => ?_)
              obtain ⟨e9, m5, m6, m7⟩ := h58
              subst e9
              refine mx_goto (tgt := 175) dX3_readSign_130 (by decide) ?_
              refine mx_vret dX3_readSign_175 rfl (⟨⟨rfl, ?_, fun a h1 h2 => by rw [m7 a h2 (by omega)]; funext k; rw [mx_u_at, if_neg (by omega), k4 a (by omega), k2 a (by omega)]⟩, rfl⟩)
              unfold rdS
              rw [if_neg (by show ¬ (peA c ∧ pL A < 20); omega), if_neg (by show ¬ (c = 40 ∧ op < 9); omega), if_pos ⟨c81, by show 0 < op; omega⟩]
              refine ⟨by show op - 1 ≤ 9; omega, ?_, ?_, m5⟩
              · rw [m7 o (by omega) (by omega), mx_u_at, if_pos ⟨rfl, rfl⟩]
              · intro i hi
                have hi : i ≤ op - 1 := hi
                obtain ⟨⟨q1, q2⟩, q3, q4⟩ := hps i (by show i ≤ op; omega)
                have f0 : ∀ b, b ≠ o → mx_u I3 o 4 (nI (op - 1)) b = I3 b := fun b hb => by funext k; rw [mx_u_at, if_neg (by omega)]
                refine ⟨⟨(((q1.k (k2 _ (by omega))).k (k4 _ (by omega))).k (f0 _ (by omega))).k (m7 _ (by omega) (by omega)), q2⟩, ?_⟩
                by_cases e : i = op - 1
                · show pcP I6 _ (upF br (op - 1) _ i) ∧ wfC (upF br (op - 1) _ i)
                  rw [e, upF_s]
                  exact ⟨m6, wfC.B (hew.O hbw) hpb2 next⟩
                · show pcP I6 _ (upF br (op - 1) _ i) ∧ wfC (upF br (op - 1) _ i)
                  rw [upF_n e]
                  exact ⟨(((q3.k (k2 _ (by omega))).k (k4 _ (by omega))).k (f0 _ (by omega))).k (m7 _ (by omega) (by omega)), q4⟩
        · skip
          refine mx_aload_n (i := 0) (hi := rfl) (hl := rfl) (hd := dX3_readSign_61) ?_
          refine mx_dup (hva := rfl) (hd := dX3_readSign_62) ?_
          refine mx_getV (ci := 3) (k := 4) (nI op) dX3_readSign_63 k_145 (by decide) rfl (by assumption) h4 ?_
          refine mx_iconstN 1 dX3_readSign_66 (by decide) ?_
          refine mx_iaddN dX3_readSign_67 ?_
          refine mx_putI (ci := 3) (k := 4) dX3_readSign_68 k_145 (by decide) rfl rfl rfl rfl (by assumption) ?_
          refine mx_aload_n (i := 0) (hi := rfl) (hl := rfl) (hd := dX3_readSign_71) ?_
          refine mx_callVi (ci := 3) (As := []) (rest := []) dX3_readSign_72 (ct_rdBegin G _ o (op + 1) hs0 (by omega) (by rw [mx_u_at, if_pos ⟨rfl, rfl⟩])) km_X3_begin rfl k_819 k_821 k_20 (by assumption) rfl rfl (Nat.le_of_ble_eq_true rfl) (by decide) (fun r59 I5 h60 => ?_)
          obtain ⟨e9, m1, m2, m3⟩ := h60
          subst e9
          refine mx_goto (tgt := 175) dX3_readSign_75 (by decide) ?_
          refine mx_vret dX3_readSign_175 rfl (⟨⟨rfl, ?_, fun a h1 h2 => by rw [m3 a (by omega)]; funext k; rw [mx_u_at, if_neg (by omega)]⟩, rfl⟩)
          unfold rdS
          rw [if_neg (by show ¬ (peA c ∧ pL A < 20); omega), if_pos ⟨c49, by show op < 9; omega⟩]
          refine ⟨by show op + 1 ≤ 9; omega, ?_, ?_, (hA.fr (lo := o) (hi := o + 1) ((mx_fr.rf _ _ _).u (by omega)) (by omega)).fr m3 (by omega)⟩
          · rw [m3 o (by omega), mx_u_at, if_pos ⟨rfl, rfl⟩]
          · intro i hi
            have hi : i ≤ op + 1 := hi
            by_cases e : i = op + 1
            · subst e
              show (pcP I5 _ (upF en (op + 1) _ (op + 1)) ∧ wfC (upF en (op + 1) _ (op + 1))) ∧ (pcP I5 _ (upF br (op + 1) _ (op + 1)) ∧ wfC (upF br (op + 1) _ (op + 1)))
              rw [upF_s, upF_s]
              exact ⟨⟨m1, wfC_0 _⟩, m2, wfC_0 _⟩
            · obtain ⟨⟨q1, q2⟩, q3, q4⟩ := hps i (by show i ≤ op; omega)
              show (pcP I5 _ (upF en (op + 1) _ i) ∧ wfC (upF en (op + 1) _ i)) ∧ (pcP I5 _ (upF br (op + 1) _ i) ∧ wfC (upF br (op + 1) _ i))
              rw [upF_n e, upF_n e]
              have f0 : ∀ b, b ≠ o → mx_u I o 4 (nI (op + 1)) b = I b := fun b hb => by funext k; rw [mx_u_at, if_neg (by omega)]
              exact ⟨⟨(q1.k (f0 _ (by omega))).k (m3 _ (by omega)), q2⟩, (q3.k (f0 _ (by omega))).k (m3 _ (by omega)), q4⟩
    · skip
      refine mx_aload_n (i := 0) (hi := rfl) (hl := rfl) (hd := dX3_readSign_19) ?_
      refine mx_getR (ci := 3) (k := 3) (r := pt) dX3_readSign_20 k_144 (by decide) rfl (by assumption) (by assumption) (by omega) ?_
      refine mx_iload_n (i := 1) (hi := rfl) (hl := rfl) (hd := dX3_readSign_23) ?_
      refine mx_callVi (ci := 2) (As := [.int (nI c)]) (rest := []) dX3_readSign_24 (ct_place G I pt A hpt hA c hc (by omega)) km_X2_place rfl k_832 k_833 k_834 (by assumption) rfl rfl (Nat.le_of_ble_eq_true rfl) (by decide) (fun r61 I2 h62 => ?_)
      obtain ⟨e9, m1, m2⟩ := h62
      subst e9
      refine mx_istoreE_n (i := 3) (ls' := [some (.ref o), some (.int (nI c)), some (.int (nI next)), some (.int (nI (2 ^ (pL A + 1))))]) (hi := rfl) (hd := dX3_readSign_27) (hn := by decide) (hok := rfl) (hls := rfl) ?_
      refine mx_aload_n (i := 0) (hi := rfl) (hl := rfl) (hd := dX3_readSign_28) ?_
      refine mx_getR (ci := 3) (k := 2) (r := (o + 3)) dX3_readSign_29 k_143 (by decide) rfl (by assumption) (by assumption) (by omega) ?_
      refine mx_iload_n (i := 3) (hi := rfl) (hl := rfl) (hd := dX3_readSign_32) ?_
      refine mx_iload_n (i := 3) (hi := rfl) (hl := rfl) (hd := dX3_readSign_33) ?_
      refine mx_iconstN 0 dX3_readSign_34 (by decide) ?_
      refine mx_top (y := mx_b (decide (false = true))) (by decide) ?_
      refine mx_callVi (ci := 4) (As := [.int (nI (2 ^ (pL A + 1))), .int (nI (2 ^ (pL A + 1))), .int (mx_b (decide (false = true)))]) (rest := []) dX3_readSign_35 (ct_become G I2 (o + 3) (2 ^ (pL A + 1)) (2 ^ (pL A + 1)) false hg8) km_X4_become rfl k_823 k_824 k_825 (by assumption) rfl rfl (Nat.le_of_ble_eq_true rfl) (by decide) (fun r63 I3 h64 => ?_)
      obtain ⟨e9, m3, m4⟩ := h64
      subst e9
      have hb21 : 2 ^ (pL A + 1) < 2 ^ 21 := Nat.pow_lt_pow_right (by decide) (by omega)
      refine mx_aload_n (i := 0) (hi := rfl) (hl := rfl) (hd := dX3_readSign_38) ?_
      refine mx_iload_n (i := 2) (hi := rfl) (hl := rfl) (hd := dX3_readSign_39) ?_
      refine mx_callVi (ci := 3) (As := [.int (nI next)]) (rest := []) dX3_readSign_40 (ct_rdAdd G I3 o op hs0 hop (by rw [m4 o (by omega), m2 o (by omega)]; exact h4) pt next (pPlace A c) (2 ^ (pL A + 1), 2 ^ (pL A + 1), false) (br op) hr3 hpt hpd (m1.fr m4 (by omega)) m3 ((hbr.k (m2 _ (by omega))).k (m4 _ (by omega))) ⟨hb21, hb21⟩ hbw hnx) km_X3_addPart rfl k_836 k_838 k_22 (by assumption) rfl rfl (Nat.le_of_ble_eq_true rfl) (by decide) (fun r65 I4 h66 => ?_)
      obtain ⟨e9, m5, m6, m7⟩ := h66
      subst e9
      refine mx_goto (tgt := 175) dX3_readSign_43 (by decide) ?_
      refine mx_vret dX3_readSign_175 rfl (⟨⟨rfl, ?_, fun a h1 h2 => by rw [m7 a h2 (by omega), m4 a (by omega), m2 a h2]⟩, rfl⟩)
      unfold rdS
      rw [if_pos ⟨c4, by show pL A < 20; omega⟩]
      refine ⟨hop, ?_, ?_, m5⟩
      · rw [m7 o (by omega) (by omega), m4 o (by omega), m2 o (by omega)]; exact h4
      · intro i hi
        have hi : i ≤ op := hi
        obtain ⟨⟨q1, q2⟩, q3, q4⟩ := hps i hi
        refine ⟨⟨((q1.k (m2 _ (by omega))).k (m4 _ (by omega))).k (m7 _ (by omega) (by omega)), q2⟩, ?_⟩
        by_cases e : i = op
        · subst e
          show pcP I4 _ (upF br i _ i) ∧ wfC (upF br i _ i)
          rw [upF_s]
          exact ⟨m6, wfC.B ⟨hb21, hb21⟩ hbw next⟩
        · show pcP I4 _ (upF br op _ i) ∧ wfC (upF br op _ i)
          rw [upF_n e]
          exact ⟨((q3.k (m2 _ (by omega))).k (m4 _ (by omega))).k (m7 _ (by omega) (by omega)), q4⟩
