/-! THE CLASS PatternReader -/
abbrev Pc : Type := Nat × Nat × Bool
def oRD (G : mx_G) (o : Nat) : Prop := mx_tg G o = 13 ∧ (mx_rf G o 0 = o + 1 ∧ mx_tg G (o + 1) = 6 ∧ mx_ln G (o + 1) = 10) ∧ (mx_rf G o 1 = o + 2 ∧ mx_tg G (o + 2) = 6 ∧ mx_ln G (o + 2) = 10) ∧ (mx_rf G o 2 = o + 3 ∧ mx_tg G (o + 3) = 14) ∧ ∀ i, i < 10 → (mx_rf G (o + 1) i = o + 9 + 2 * i ∧ mx_tg G (o + 9 + 2 * i) = 14) ∧ (mx_rf G (o + 2) i = o + 10 + 2 * i ∧ mx_tg G (o + 10 + 2 * i) = 14)
theorem oRD.sm {G G' : mx_G} {o : Nat} (h : oRD G o) (m : mx_sm G G') : oRD G' o := by
  obtain ⟨h1, h2, h3, ⟨h4, h5⟩, h6⟩ := h
  refine ⟨m.tg h1 (by decide), m.ar (by omega) (by omega) (by omega) (by decide) h2, m.ar (by omega) (by omega) (by omega) (by decide) h3, ⟨((m o (by omega)).2.2 2 (by omega) (by omega)).trans h4, m.tg h5 (by decide)⟩, fun i hi => ?_⟩
  obtain ⟨⟨e1, e2⟩, e3, e4⟩ := h6 i hi
  exact ⟨⟨((m (o + 1) (by omega)).2.2 i (by omega) (by omega)).trans e1, m.tg e2 (by decide)⟩, ((m (o + 2) (by omega)).2.2 i (by omega) (by omega)).trans e3, m.tg e4 (by decide)⟩
def pcP (I : mx_I) (a : Nat) (x : Pc) : Prop := pcN I a x.1 x.2.1 x.2.2
def wfC (x : Pc) : Prop := x.1 < 2 ^ 21 ∧ x.2.1 < 2 ^ 21
def emp (pe : Bool) (c : Nat) : Bool := pe || (decide (c = 42) || decide (c = 63))
theorem emp_1 {pe : Bool} {c : Nat} (h : pe = true ∨ c = 42 ∨ c = 63) : emp pe c = true := by
  unfold emp
  rcases h with h | h | h
  · rw [h]; rfl
  · rw [decide_eq_true h]; cases pe <;> rfl
  · rw [decide_eq_true h]; cases pe <;> cases decide (c = 42) <;> rfl
theorem emp_0 {pe : Bool} {c : Nat} (h1 : ¬ pe = true) (h2 : ¬ c = 42) (h3 : ¬ c = 63) : ¬ emp pe c = true := by
  unfold emp
  rw [decide_eq_false h2, decide_eq_false h3]
  cases pe
  · exact Bool.noConfusion
  · exact absurd rfl h1
def rdA (A : Pa) (part br : Pc) (c : Nat) : Pa := pAllow (if c = 42 ∨ c = 43 then pAllow A part.2.1 part.1 else A) br.2.1 part.1
def rdB (part br : Pc) (c : Nat) : Pc := (br.1 ||| (if br.2.2 = true then part.1 else 0), part.2.1 ||| (if emp part.2.2 c = true then br.2.1 else 0), br.2.2 && emp part.2.2 c)
theorem wfC.B {part br : Pc} (h1 : wfC part) (h2 : wfC br) (c : Nat) : wfC (rdB part br c) := by
  refine ⟨?_, ?_⟩
  · show br.1 ||| _ < 2 ^ 21
    refine mx_or_lt h2.1 ?_
    split
    · exact h1.1
    · exact Nat.two_pow_pos 21
  · show part.2.1 ||| _ < 2 ^ 21
    refine mx_or_lt h1.2 ?_
    split
    · exact h2.2
    · exact Nat.two_pow_pos 21
def rdO (a b : Pc) : Pc := (a.1 ||| b.1, a.2.1 ||| b.2.1, a.2.2 || b.2.2)
theorem wfC.O {a b : Pc} (h1 : wfC a) (h2 : wfC b) : wfC (rdO a b) := ⟨mx_or_lt h1.1 h2.1, mx_or_lt h1.2 h2.2⟩

set_option maxHeartbeats 4000000 in
set_option maxRecDepth 100000 in
theorem ct_rdBegin (G : mx_G) (I : mx_I) (o op : Nat) (hs : oRD G o) (hop : op ≤ 9) (h4 : I o 4 = nI op) : mx_CTi yX3_begin mX3_begin 2 [.ref o] G I (fun rv I1 => rv = none ∧ pcP I1 (o + 9 + 2 * op) (0, 0, false) ∧ pcP I1 (o + 10 + 2 * op) (0, 0, true) ∧ mx_fr I I1 (o + 9 + 2 * op) (o + 11 + 2 * op)) := by
  refine mx_start (k := 0) (by decide) rfl rfl (fun h => nomatch h) (Nat.le_of_ble_eq_true rfl) ?_
  show mx_V mX3_begin mx_S0 2 0 0 0 [some (.ref o)] [] G I (fun rv Gz Iz => (fun rv I1 => rv = none ∧ pcP I1 (o + 9 + 2 * op) (0, 0, false) ∧ pcP I1 (o + 10 + 2 * op) (0, 0, true) ∧ mx_fr I I1 (o + 9 + 2 * op) (o + 11 + 2 * op)) rv Iz ∧ Gz = G) (fun _ _ _ => False)
  obtain ⟨hg0, ⟨hg1, hg2, hg3⟩, ⟨hg4, hg5, hg6⟩, ⟨hg7, hg8⟩, hpc⟩ := hs
  obtain ⟨⟨he1, he2⟩, hb1, hb2⟩ := hpc op (by omega)
  refine mx_aload_n (i := 0) (hi := rfl) (hl := rfl) (hd := dX3_begin_0) ?_
  refine mx_getR (ci := 3) (k := 0) (r := (o + 1)) dX3_begin_1 k_141 (by decide) rfl (by assumption) (by assumption) (by omega) ?_
  refine mx_aload_n (i := 0) (hi := rfl) (hl := rfl) (hd := dX3_begin_4) ?_
  refine mx_getV (ci := 3) (k := 4) (nI op) dX3_begin_5 k_145 (by decide) rfl (by assumption) h4 ?_
  refine mx_aald (r := (o + 9 + 2 * op)) op dX3_begin_8 (by assumption) (by decide) ⟨rfl, by omega, by omega⟩ (he1) (by omega) ?_
  refine mx_iconstN 0 dX3_begin_9 (by decide) ?_
  refine mx_iconstN 0 dX3_begin_10 (by decide) ?_
  refine mx_iconstN 0 dX3_begin_11 (by decide) ?_
  refine mx_top (y := mx_b (decide (false = true))) (by decide) ?_
  refine mx_callVi (ci := 4) (As := [.int (nI 0), .int (nI 0), .int (mx_b (decide (false = true)))]) (rest := []) dX3_begin_12 (ct_become G I (o + 9 + 2 * op) 0 0 false he2) km_X4_become rfl k_823 k_824 k_825 (by assumption) rfl rfl (Nat.le_of_ble_eq_true rfl) (by decide) (fun r1 I2 h2 => ?_)
  obtain ⟨e9, m1, m2⟩ := h2
  subst e9
  refine mx_aload_n (i := 0) (hi := rfl) (hl := rfl) (hd := dX3_begin_15) ?_
  refine mx_getR (ci := 3) (k := 1) (r := (o + 2)) dX3_begin_16 k_142 (by decide) rfl (by assumption) (by assumption) (by omega) ?_
  refine mx_aload_n (i := 0) (hi := rfl) (hl := rfl) (hd := dX3_begin_19) ?_
  refine mx_getV (ci := 3) (k := 4) (nI op) dX3_begin_20 k_145 (by decide) rfl (by assumption) (by rw [m2 o (by omega)]; exact h4) ?_
  refine mx_aald (r := (o + 10 + 2 * op)) op dX3_begin_23 (by assumption) (by decide) ⟨rfl, by omega, by omega⟩ (hb1) (by omega) ?_
  refine mx_iconstN 0 dX3_begin_24 (by decide) ?_
  refine mx_iconstN 0 dX3_begin_25 (by decide) ?_
  refine mx_iconstN 1 dX3_begin_26 (by decide) ?_
  refine mx_top (y := mx_b (decide (true = true))) (by decide) ?_
  refine mx_callVi (ci := 4) (As := [.int (nI 0), .int (nI 0), .int (mx_b (decide (true = true)))]) (rest := []) dX3_begin_27 (ct_become G I2 (o + 10 + 2 * op) 0 0 true hb2) km_X4_become rfl k_823 k_824 k_825 (by assumption) rfl rfl (Nat.le_of_ble_eq_true rfl) (by decide) (fun r3 I3 h4 => ?_)
  obtain ⟨e9, m3, m4⟩ := h4
  subst e9
  exact mx_vret dX3_begin_30 rfl (⟨⟨rfl, m1.fr m4 (by omega), m3, (m2.wk (by omega) (by omega)).tr (m4.wk (by omega) (by omega))⟩, rfl⟩)

set_option maxHeartbeats 4000000 in
set_option maxRecDepth 100000 in
theorem ct_rdClosed (G : mx_G) (I : mx_I) (o op : Nat) (hs : oRD G o) (hop : op ≤ 9) (h4 : I o 4 = nI op) (en br : Pc) (he : pcP I (o + 9 + 2 * op) en) (hb : pcP I (o + 10 + 2 * op) br) : mx_CTi yX3_closed mX3_closed 3 [.ref o] G I (fun rv I1 => rv = some (.ref (o + 9 + 2 * op)) ∧ pcP I1 (o + 9 + 2 * op) (rdO en br) ∧ mx_fr I I1 (o + 9 + 2 * op) (o + 9 + 2 * op + 1)) := by
  refine mx_start (k := 0) (by decide) rfl rfl (fun h => nomatch h) (Nat.le_of_ble_eq_true rfl) ?_
  show mx_V mX3_closed mx_S0 3 0 0 0 [some (.ref o)] [] G I (fun rv Gz Iz => (fun rv I1 => rv = some (.ref (o + 9 + 2 * op)) ∧ pcP I1 (o + 9 + 2 * op) (rdO en br) ∧ mx_fr I I1 (o + 9 + 2 * op) (o + 9 + 2 * op + 1)) rv Iz ∧ Gz = G) (fun _ _ _ => False)
  obtain ⟨hg0, ⟨hg1, hg2, hg3⟩, ⟨hg4, hg5, hg6⟩, ⟨hg7, hg8⟩, hpc⟩ := hs
  obtain ⟨⟨he1, he2⟩, hb1, hb2⟩ := hpc op (by omega)
  refine mx_aload_n (i := 0) (hi := rfl) (hl := rfl) (hd := dX3_closed_0) ?_
  refine mx_getR (ci := 3) (k := 0) (r := (o + 1)) dX3_closed_1 k_141 (by decide) rfl (by assumption) (by assumption) (by omega) ?_
  refine mx_aload_n (i := 0) (hi := rfl) (hl := rfl) (hd := dX3_closed_4) ?_
  refine mx_getV (ci := 3) (k := 4) (nI op) dX3_closed_5 k_145 (by decide) rfl (by assumption) h4 ?_
  refine mx_aald (r := (o + 9 + 2 * op)) op dX3_closed_8 (by assumption) (by decide) ⟨rfl, by omega, by omega⟩ (he1) (by omega) ?_
  refine mx_aload_n (i := 0) (hi := rfl) (hl := rfl) (hd := dX3_closed_9) ?_
  refine mx_getR (ci := 3) (k := 1) (r := (o + 2)) dX3_closed_10 k_142 (by decide) rfl (by assumption) (by assumption) (by omega) ?_
  refine mx_aload_n (i := 0) (hi := rfl) (hl := rfl) (hd := dX3_closed_13) ?_
  refine mx_getV (ci := 3) (k := 4) (nI op) dX3_closed_14 k_145 (by decide) rfl (by assumption) h4 ?_
  refine mx_aald (r := (o + 10 + 2 * op)) op dX3_closed_17 (by assumption) (by decide) ⟨rfl, by omega, by omega⟩ (hb1) (by omega) ?_
  refine mx_callVi (ci := 4) (As := [.ref (o + 10 + 2 * op)]) (rest := []) dX3_closed_18 (ct_orElse G I (o + 9 + 2 * op) (o + 10 + 2 * op) en.1 en.2.1 br.1 br.2.1 en.2.2 br.2.2 he2 hb2 he hb) km_X4_orElse rfl k_848 k_849 k_850 (by assumption) rfl rfl (Nat.le_of_ble_eq_true rfl) (by decide) (fun r1 I2 h2 => ?_)
  obtain ⟨e9, m1, m2⟩ := h2
  subst e9
  refine mx_aload_n (i := 0) (hi := rfl) (hl := rfl) (hd := dX3_closed_21) ?_
  refine mx_getR (ci := 3) (k := 0) (r := (o + 1)) dX3_closed_22 k_141 (by decide) rfl (by assumption) (by assumption) (by omega) ?_
  refine mx_aload_n (i := 0) (hi := rfl) (hl := rfl) (hd := dX3_closed_25) ?_
  refine mx_getV (ci := 3) (k := 4) (nI op) dX3_closed_26 k_145 (by decide) rfl (by assumption) (by rw [m2 o (by omega)]; exact h4) ?_
  refine mx_aald (r := (o + 9 + 2 * op)) op dX3_closed_29 (by assumption) (by decide) ⟨rfl, by omega, by omega⟩ (he1) (by omega) ?_
  exact mx_aret dX3_closed_30 rfl (⟨⟨rfl, m1, m2⟩, rfl⟩)

set_option maxHeartbeats 4000000 in
set_option maxRecDepth 100000 in
theorem ct_rdAdd (G : mx_G) (I : mx_I) (o op : Nat) (hs : oRD G o) (hop : op ≤ 9) (h4 : I o 4 = nI op) (pt c : Nat) (A : Pa) (part br : Pc) (hr3 : mx_rf G o 3 = pt) (hpt : oPT G pt) (hpd : o + 29 ≤ pt) (hA : ptN I pt A) (hpa : pcP I (o + 3) part) (hbr : pcP I (o + 10 + 2 * op) br) (hw1 : wfC part) (hw2 : wfC br) (hc : c < 65536) : mx_CTi yX3_addPart mX3_addPart 3 [.ref o, .int (nI c)] G I (fun rv I1 => rv = none ∧ ptN I1 pt (rdA A part br c) ∧ pcP I1 (o + 10 + 2 * op) (rdB part br c) ∧ ∀ a, (a < pt ∨ pt + 5 ≤ a) → a ≠ o + 10 + 2 * op → I1 a = I a) := by
  refine mx_start (k := 2) (by decide) rfl rfl (fun h => nomatch h) (Nat.le_of_ble_eq_true rfl) ?_
  show mx_V mX3_addPart mx_S0 3 0 0 0 [some (.ref o), some (.int (nI c)), none, none] [] G I (fun rv Gz Iz => (fun rv I1 => rv = none ∧ ptN I1 pt (rdA A part br c) ∧ pcP I1 (o + 10 + 2 * op) (rdB part br c) ∧ ∀ a, (a < pt ∨ pt + 5 ≤ a) → a ≠ o + 10 + 2 * op → I1 a = I a) rv Iz ∧ Gz = G) (fun _ _ _ => False)
  obtain ⟨hg0, ⟨hg1, hg2, hg3⟩, ⟨hg4, hg5, hg6⟩, ⟨hg7, hg8⟩, hpc⟩ := hs
  obtain ⟨⟨he1, he2⟩, hb1, hb2⟩ := hpc op (by omega)
  have hp0 := hpt.1
  have J33 : ∀ (I1 : mx_I), (ptN I1 pt (if c = 42 ∨ c = 43 then pAllow A part.2.1 part.1 else A)) → (mx_fr I I1 pt (pt + 5)) → mx_V mX3_addPart mx_S0 3 0 0 33 [some (.ref o), some (.int (nI c)), none, none] [] G I1 (fun rv Gz Iz => (fun rv I1 => rv = none ∧ ptN I1 pt (rdA A part br c) ∧ pcP I1 (o + 10 + 2 * op) (rdB part br c) ∧ ∀ a, (a < pt ∨ pt + 5 ≤ a) → a ≠ o + 10 + 2 * op → I1 a = I a) rv Iz ∧ Gz = G) (fun _ _ _ => False) := by
    intro I1 h1 hfr
    have J60 : ∀ (_ : Unit), mx_V mX3_addPart mx_S0 3 0 0 60 [some (.ref o), some (.int (nI c)), none, none] [.int (mx_b (decide (emp part.2.2 c = true)))] G I1 (fun rv Gz Iz => (fun rv I1 => rv = none ∧ ptN I1 pt (rdA A part br c) ∧ pcP I1 (o + 10 + 2 * op) (rdB part br c) ∧ ∀ a, (a < pt ∨ pt + 5 ≤ a) → a ≠ o + 10 + 2 * op → I1 a = I a) rv Iz ∧ Gz = G) (fun _ _ _ => False) := by
      intro _ 
      refine mx_istoreE_n (i := 2) (ls' := [some (.ref o), some (.int (nI c)), some (.int (mx_b (decide (emp part.2.2 c = true)))), none]) (hi := rfl) (hd := dX3_addPart_60) (hn := by decide) (hok := rfl) (hls := rfl) ?_
      refine mx_aload_n (i := 0) (hi := rfl) (hl := rfl) (hd := dX3_addPart_61) ?_
      refine mx_getR (ci := 3) (k := 1) (r := (o + 2)) dX3_addPart_62 k_142 (by decide) rfl (by assumption) (by assumption) (by omega) ?_
      refine mx_aload_n (i := 0) (hi := rfl) (hl := rfl) (hd := dX3_addPart_65) ?_
      refine mx_getV (ci := 3) (k := 4) (nI op) dX3_addPart_66 k_145 (by decide) rfl (by assumption) (by rw [hfr o (by omega)]; exact h4) ?_
      refine mx_aald (r := (o + 10 + 2 * op)) op dX3_addPart_69 (by assumption) (by decide) ⟨rfl, by omega, by omega⟩ (hb1) (by omega) ?_
      refine mx_astoreE_n (i := 3) (ls' := [some (.ref o), some (.int (nI c)), some (.int (mx_b (decide (emp part.2.2 c = true)))), some (.ref (o + 10 + 2 * op))]) (hi := rfl) (hd := dX3_addPart_70) (hn := by decide) (hok := rfl) (hls := rfl) ?_
      refine mx_aload_n (i := 0) (hi := rfl) (hl := rfl) (hd := dX3_addPart_71) ?_
      refine mx_getR (ci := 3) (k := 3) (r := pt) dX3_addPart_72 k_144 (by decide) rfl (by assumption) (by assumption) (by omega) ?_
      refine mx_aload_n (i := 3) (hi := rfl) (hl := rfl) (hd := dX3_addPart_75) ?_
      refine mx_getV (ci := 4) (k := 1) (nI br.2.1) dX3_addPart_76 k_129 (by decide) rfl (by assumption) (hbr.fr hfr (by omega)).2.1 ?_
      refine mx_aload_n (i := 0) (hi := rfl) (hl := rfl) (hd := dX3_addPart_79) ?_
      refine mx_getR (ci := 3) (k := 2) (r := (o + 3)) dX3_addPart_80 k_143 (by decide) rfl (by assumption) (by assumption) (by omega) ?_
      refine mx_getV (ci := 4) (k := 0) (nI part.1) dX3_addPart_83 k_127 (by decide) rfl (by assumption) (hpa.fr hfr (by omega)).1 ?_
      refine mx_callVi (ci := 2) (As := [.int (nI br.2.1), .int (nI part.1)]) (rest := []) dX3_addPart_86 (ct_allow G I1 pt _ hpt h1 br.2.1 part.1 hw2.2 hw1.1) km_X2_allow rfl k_840 k_841 k_842 (by assumption) rfl rfl (Nat.le_of_ble_eq_true rfl) (by decide) (fun r1 I3 h2 => ?_)
      obtain ⟨e9, m1, m2⟩ := h2
      subst e9
      have m3 := hfr.tr m2
      refine mx_aload_n (i := 3) (hi := rfl) (hl := rfl) (hd := dX3_addPart_89) ?_
      refine mx_aload_n (i := 3) (hi := rfl) (hl := rfl) (hd := dX3_addPart_90) ?_
      refine mx_getV (ci := 4) (k := 0) (nI br.1) dX3_addPart_91 k_127 (by decide) rfl (by assumption) (hbr.fr m3 (by omega)).1 ?_
      refine mx_aload_n (i := 3) (hi := rfl) (hl := rfl) (hd := dX3_addPart_94) ?_
      refine mx_getV (ci := 4) (k := 2) (mx_b (decide (br.2.2 = true)) : Int32) dX3_addPart_95 k_131 (by decide) rfl (by assumption) (by rw [mx_dec]; exact (hbr.fr m3 (by omega)).2.2) ?_
      refine mx_ifB_eq 111 dX3_addPart_98 (by decide) (fun c98 => ?_) (fun c98 => ?_)
      · skip
        refine mx_iconstN 0 dX3_addPart_111 (by decide) ?_
        refine mx_top (y := nI (if br.2.2 = true then part.1 else 0)) (by rw [if_neg c98]) ?_
        refine mx_iorN dX3_addPart_112 ?_
        refine mx_aload_n (i := 0) (hi := rfl) (hl := rfl) (hd := dX3_addPart_113) ?_
        refine mx_getR (ci := 3) (k := 2) (r := (o + 3)) dX3_addPart_114 k_143 (by decide) rfl (by assumption) (by assumption) (by omega) ?_
        refine mx_getV (ci := 4) (k := 1) (nI part.2.1) dX3_addPart_117 k_129 (by decide) rfl (by assumption) (hpa.fr m3 (by omega)).2.1 ?_
        refine mx_iload_n (i := 2) (hi := rfl) (hl := rfl) (hd := dX3_addPart_120) ?_
        refine mx_ifB_eq 131 dX3_addPart_121 (by decide) (fun c121 => ?_) (fun c121 => ?_)
        · skip
          refine mx_iconstN 0 dX3_addPart_131 (by decide) ?_
          refine mx_top (y := nI (if emp part.2.2 c = true then br.2.1 else 0)) (by rw [if_neg c121]) ?_
          refine mx_iorN dX3_addPart_132 ?_
          refine mx_aload_n (i := 3) (hi := rfl) (hl := rfl) (hd := dX3_addPart_133) ?_
          refine mx_getV (ci := 4) (k := 2) (mx_b (decide (br.2.2 = true)) : Int32) dX3_addPart_134 k_131 (by decide) rfl (by assumption) (by rw [mx_dec]; exact (hbr.fr m3 (by omega)).2.2) ?_
          refine mx_ifB_eq 148 dX3_addPart_137 (by decide) (fun c137 => ?_) (fun c137 => ?_)
          · skip
            refine mx_iconstN 0 dX3_addPart_148 (by decide) ?_
            refine mx_top (y := mx_b (decide ((br.2.2 && emp part.2.2 c) = true))) (mx_bF (by first | (rw [Bool.eq_false_iff.mpr c137]; exact Bool.noConfusion) | (rw [Bool.eq_false_iff.mpr c141, Bool.and_false]; exact Bool.noConfusion))) ?_
            refine mx_callVi (ci := 4) (As := [.int (nI (br.1 ||| (if br.2.2 = true then part.1 else 0))), .int (nI (part.2.1 ||| (if emp part.2.2 c = true then br.2.1 else 0))), .int (mx_b (decide ((br.2.2 && emp part.2.2 c) = true)))]) (rest := []) dX3_addPart_149 (ct_become G I3 (o + 10 + 2 * op) (br.1 ||| (if br.2.2 = true then part.1 else 0)) (part.2.1 ||| (if emp part.2.2 c = true then br.2.1 else 0)) (br.2.2 && emp part.2.2 c) hb2) km_X4_become rfl k_823 k_824 k_825 (by assumption) rfl rfl (Nat.le_of_ble_eq_true rfl) (by decide) (fun r3 I4 h4 => ?_)
            obtain ⟨e9, m4, m5⟩ := h4
            subst e9
            exact mx_vret dX3_addPart_152 rfl (⟨⟨rfl, m1.fr m5 (by omega), m4, fun a ha hb => (m5 a (by omega)).trans (m3 a ha)⟩, rfl⟩)
          · skip
            refine mx_iload_n (i := 2) (hi := rfl) (hl := rfl) (hd := dX3_addPart_140) ?_
            refine mx_ifB_eq 148 dX3_addPart_141 (by decide) (fun c141 => ?_) (fun c141 => ?_)
            · skip
              refine mx_iconstN 0 dX3_addPart_148 (by decide) ?_
              refine mx_top (y := mx_b (decide ((br.2.2 && emp part.2.2 c) = true))) (mx_bF (by first | (rw [Bool.eq_false_iff.mpr c137]; exact Bool.noConfusion) | (rw [Bool.eq_false_iff.mpr c141, Bool.and_false]; exact Bool.noConfusion))) ?_
              refine mx_callVi (ci := 4) (As := [.int (nI (br.1 ||| (if br.2.2 = true then part.1 else 0))), .int (nI (part.2.1 ||| (if emp part.2.2 c = true then br.2.1 else 0))), .int (mx_b (decide ((br.2.2 && emp part.2.2 c) = true)))]) (rest := []) dX3_addPart_149 (ct_become G I3 (o + 10 + 2 * op) (br.1 ||| (if br.2.2 = true then part.1 else 0)) (part.2.1 ||| (if emp part.2.2 c = true then br.2.1 else 0)) (br.2.2 && emp part.2.2 c) hb2) km_X4_become rfl k_823 k_824 k_825 (by assumption) rfl rfl (Nat.le_of_ble_eq_true rfl) (by decide) (fun r5 I4 h6 => ?_)
              obtain ⟨e9, m4, m5⟩ := h6
              subst e9
              exact mx_vret dX3_addPart_152 rfl (⟨⟨rfl, m1.fr m5 (by omega), m4, fun a ha hb => (m5 a (by omega)).trans (m3 a ha)⟩, rfl⟩)
            · skip
              refine mx_iconstN 1 dX3_addPart_144 (by decide) ?_
              refine mx_goto (tgt := 149) dX3_addPart_145 (by decide) ?_
              refine mx_top (y := mx_b (decide ((br.2.2 && emp part.2.2 c) = true))) (mx_bT (by rw [c137, c141]; rfl)) ?_
              refine mx_callVi (ci := 4) (As := [.int (nI (br.1 ||| (if br.2.2 = true then part.1 else 0))), .int (nI (part.2.1 ||| (if emp part.2.2 c = true then br.2.1 else 0))), .int (mx_b (decide ((br.2.2 && emp part.2.2 c) = true)))]) (rest := []) dX3_addPart_149 (ct_become G I3 (o + 10 + 2 * op) (br.1 ||| (if br.2.2 = true then part.1 else 0)) (part.2.1 ||| (if emp part.2.2 c = true then br.2.1 else 0)) (br.2.2 && emp part.2.2 c) hb2) km_X4_become rfl k_823 k_824 k_825 (by assumption) rfl rfl (Nat.le_of_ble_eq_true rfl) (by decide) (fun r7 I4 h8 => ?_)
              obtain ⟨e9, m4, m5⟩ := h8
              subst e9
              exact mx_vret dX3_addPart_152 rfl (⟨⟨rfl, m1.fr m5 (by omega), m4, fun a ha hb => (m5 a (by omega)).trans (m3 a ha)⟩, rfl⟩)
        · skip
          refine mx_aload_n (i := 3) (hi := rfl) (hl := rfl) (hd := dX3_addPart_124) ?_
          refine mx_getV (ci := 4) (k := 1) (nI br.2.1) dX3_addPart_125 k_129 (by decide) rfl (by assumption) (hbr.fr m3 (by omega)).2.1 ?_
          refine mx_goto (tgt := 132) dX3_addPart_128 (by decide) ?_
          refine mx_top (y := nI (if emp part.2.2 c = true then br.2.1 else 0)) (by rw [if_pos c121]) ?_
          refine mx_iorN dX3_addPart_132 ?_
          refine mx_aload_n (i := 3) (hi := rfl) (hl := rfl) (hd := dX3_addPart_133) ?_
          refine mx_getV (ci := 4) (k := 2) (mx_b (decide (br.2.2 = true)) : Int32) dX3_addPart_134 k_131 (by decide) rfl (by assumption) (by rw [mx_dec]; exact (hbr.fr m3 (by omega)).2.2) ?_
          refine mx_ifB_eq 148 dX3_addPart_137 (by decide) (fun c137 => ?_) (fun c137 => ?_)
          · skip
            refine mx_iconstN 0 dX3_addPart_148 (by decide) ?_
            refine mx_top (y := mx_b (decide ((br.2.2 && emp part.2.2 c) = true))) (mx_bF (by first | (rw [Bool.eq_false_iff.mpr c137]; exact Bool.noConfusion) | (rw [Bool.eq_false_iff.mpr c141, Bool.and_false]; exact Bool.noConfusion))) ?_
            refine mx_callVi (ci := 4) (As := [.int (nI (br.1 ||| (if br.2.2 = true then part.1 else 0))), .int (nI (part.2.1 ||| (if emp part.2.2 c = true then br.2.1 else 0))), .int (mx_b (decide ((br.2.2 && emp part.2.2 c) = true)))]) (rest := []) dX3_addPart_149 (ct_become G I3 (o + 10 + 2 * op) (br.1 ||| (if br.2.2 = true then part.1 else 0)) (part.2.1 ||| (if emp part.2.2 c = true then br.2.1 else 0)) (br.2.2 && emp part.2.2 c) hb2) km_X4_become rfl k_823 k_824 k_825 (by assumption) rfl rfl (Nat.le_of_ble_eq_true rfl) (by decide) (fun r9 I4 h10 => ?_)
            obtain ⟨e9, m4, m5⟩ := h10
            subst e9
            exact mx_vret dX3_addPart_152 rfl (⟨⟨rfl, m1.fr m5 (by omega), m4, fun a ha hb => (m5 a (by omega)).trans (m3 a ha)⟩, rfl⟩)
          · skip
            refine mx_iload_n (i := 2) (hi := rfl) (hl := rfl) (hd := dX3_addPart_140) ?_
            refine mx_ifB_eq 148 dX3_addPart_141 (by decide) (fun c141 => ?_) (fun c141 => ?_)
            · skip
              refine mx_iconstN 0 dX3_addPart_148 (by decide) ?_
              refine mx_top (y := mx_b (decide ((br.2.2 && emp part.2.2 c) = true))) (mx_bF (by first | (rw [Bool.eq_false_iff.mpr c137]; exact Bool.noConfusion) | (rw [Bool.eq_false_iff.mpr c141, Bool.and_false]; exact Bool.noConfusion))) ?_
              refine mx_callVi (ci := 4) (As := [.int (nI (br.1 ||| (if br.2.2 = true then part.1 else 0))), .int (nI (part.2.1 ||| (if emp part.2.2 c = true then br.2.1 else 0))), .int (mx_b (decide ((br.2.2 && emp part.2.2 c) = true)))]) (rest := []) dX3_addPart_149 (ct_become G I3 (o + 10 + 2 * op) (br.1 ||| (if br.2.2 = true then part.1 else 0)) (part.2.1 ||| (if emp part.2.2 c = true then br.2.1 else 0)) (br.2.2 && emp part.2.2 c) hb2) km_X4_become rfl k_823 k_824 k_825 (by assumption) rfl rfl (Nat.le_of_ble_eq_true rfl) (by decide) (fun r11 I4 h12 => ?_)
              obtain ⟨e9, m4, m5⟩ := h12
              subst e9
              exact mx_vret dX3_addPart_152 rfl (⟨⟨rfl, m1.fr m5 (by omega), m4, fun a ha hb => (m5 a (by omega)).trans (m3 a ha)⟩, rfl⟩)
            · skip
              refine mx_iconstN 1 dX3_addPart_144 (by decide) ?_
              refine mx_goto (tgt := 149) dX3_addPart_145 (by decide) ?_
              refine mx_top (y := mx_b (decide ((br.2.2 && emp part.2.2 c) = true))) (mx_bT (by rw [c137, c141]; rfl)) ?_
              refine mx_callVi (ci := 4) (As := [.int (nI (br.1 ||| (if br.2.2 = true then part.1 else 0))), .int (nI (part.2.1 ||| (if emp part.2.2 c = true then br.2.1 else 0))), .int (mx_b (decide ((br.2.2 && emp part.2.2 c) = true)))]) (rest := []) dX3_addPart_149 (ct_become G I3 (o + 10 + 2 * op) (br.1 ||| (if br.2.2 = true then part.1 else 0)) (part.2.1 ||| (if emp part.2.2 c = true then br.2.1 else 0)) (br.2.2 && emp part.2.2 c) hb2) km_X4_become rfl k_823 k_824 k_825 (by assumption) rfl rfl (Nat.le_of_ble_eq_true rfl) (by decide) (fun r13 I4 h14 => ?_)
              obtain ⟨e9, m4, m5⟩ := h14
              subst e9
              exact mx_vret dX3_addPart_152 rfl (⟨⟨rfl, m1.fr m5 (by omega), m4, fun a ha hb => (m5 a (by omega)).trans (m3 a ha)⟩, rfl⟩)
      · skip
        refine mx_aload_n (i := 0) (hi := rfl) (hl := rfl) (hd := dX3_addPart_101) ?_
        refine mx_getR (ci := 3) (k := 2) (r := (o + 3)) dX3_addPart_102 k_143 (by decide) rfl (by assumption) (by assumption) (by omega) ?_
        refine mx_getV (ci := 4) (k := 0) (nI part.1) dX3_addPart_105 k_127 (by decide) rfl (by assumption) (hpa.fr m3 (by omega)).1 ?_
        refine mx_goto (tgt := 112) dX3_addPart_108 (by decide) ?_
        refine mx_top (y := nI (if br.2.2 = true then part.1 else 0)) (by rw [if_pos c98]) ?_
        refine mx_iorN dX3_addPart_112 ?_
        refine mx_aload_n (i := 0) (hi := rfl) (hl := rfl) (hd := dX3_addPart_113) ?_
        refine mx_getR (ci := 3) (k := 2) (r := (o + 3)) dX3_addPart_114 k_143 (by decide) rfl (by assumption) (by assumption) (by omega) ?_
        refine mx_getV (ci := 4) (k := 1) (nI part.2.1) dX3_addPart_117 k_129 (by decide) rfl (by assumption) (hpa.fr m3 (by omega)).2.1 ?_
        refine mx_iload_n (i := 2) (hi := rfl) (hl := rfl) (hd := dX3_addPart_120) ?_
        refine mx_ifB_eq 131 dX3_addPart_121 (by decide) (fun c121 => ?_) (fun c121 => ?_)
        · skip
          refine mx_iconstN 0 dX3_addPart_131 (by decide) ?_
          refine mx_top (y := nI (if emp part.2.2 c = true then br.2.1 else 0)) (by rw [if_neg c121]) ?_
          refine mx_iorN dX3_addPart_132 ?_
          refine mx_aload_n (i := 3) (hi := rfl) (hl := rfl) (hd := dX3_addPart_133) ?_
          refine mx_getV (ci := 4) (k := 2) (mx_b (decide (br.2.2 = true)) : Int32) dX3_addPart_134 k_131 (by decide) rfl (by assumption) (by rw [mx_dec]; exact (hbr.fr m3 (by omega)).2.2) ?_
          refine mx_ifB_eq 148 dX3_addPart_137 (by decide) (fun c137 => ?_) (fun c137 => ?_)
          · skip
            refine mx_iconstN 0 dX3_addPart_148 (by decide) ?_
            refine mx_top (y := mx_b (decide ((br.2.2 && emp part.2.2 c) = true))) (mx_bF (by first | (rw [Bool.eq_false_iff.mpr c137]; exact Bool.noConfusion) | (rw [Bool.eq_false_iff.mpr c141, Bool.and_false]; exact Bool.noConfusion))) ?_
            refine mx_callVi (ci := 4) (As := [.int (nI (br.1 ||| (if br.2.2 = true then part.1 else 0))), .int (nI (part.2.1 ||| (if emp part.2.2 c = true then br.2.1 else 0))), .int (mx_b (decide ((br.2.2 && emp part.2.2 c) = true)))]) (rest := []) dX3_addPart_149 (ct_become G I3 (o + 10 + 2 * op) (br.1 ||| (if br.2.2 = true then part.1 else 0)) (part.2.1 ||| (if emp part.2.2 c = true then br.2.1 else 0)) (br.2.2 && emp part.2.2 c) hb2) km_X4_become rfl k_823 k_824 k_825 (by assumption) rfl rfl (Nat.le_of_ble_eq_true rfl) (by decide) (fun r15 I4 h16 => ?_)
            obtain ⟨e9, m4, m5⟩ := h16
            subst e9
            exact mx_vret dX3_addPart_152 rfl (⟨⟨rfl, m1.fr m5 (by omega), m4, fun a ha hb => (m5 a (by omega)).trans (m3 a ha)⟩, rfl⟩)
          · skip
            refine mx_iload_n (i := 2) (hi := rfl) (hl := rfl) (hd := dX3_addPart_140) ?_
            refine mx_ifB_eq 148 dX3_addPart_141 (by decide) (fun c141 => ?_) (fun c141 => ?_)
            · skip
              refine mx_iconstN 0 dX3_addPart_148 (by decide) ?_
              refine mx_top (y := mx_b (decide ((br.2.2 && emp part.2.2 c) = true))) (mx_bF (by first | (rw [Bool.eq_false_iff.mpr c137]; exact Bool.noConfusion) | (rw [Bool.eq_false_iff.mpr c141, Bool.and_false]; exact Bool.noConfusion))) ?_
              refine mx_callVi (ci := 4) (As := [.int (nI (br.1 ||| (if br.2.2 = true then part.1 else 0))), .int (nI (part.2.1 ||| (if emp part.2.2 c = true then br.2.1 else 0))), .int (mx_b (decide ((br.2.2 && emp part.2.2 c) = true)))]) (rest := []) dX3_addPart_149 (ct_become G I3 (o + 10 + 2 * op) (br.1 ||| (if br.2.2 = true then part.1 else 0)) (part.2.1 ||| (if emp part.2.2 c = true then br.2.1 else 0)) (br.2.2 && emp part.2.2 c) hb2) km_X4_become rfl k_823 k_824 k_825 (by assumption) rfl rfl (Nat.le_of_ble_eq_true rfl) (by decide) (fun r17 I4 h18 => ?_)
              obtain ⟨e9, m4, m5⟩ := h18
              subst e9
              exact mx_vret dX3_addPart_152 rfl (⟨⟨rfl, m1.fr m5 (by omega), m4, fun a ha hb => (m5 a (by omega)).trans (m3 a ha)⟩, rfl⟩)
            · skip
              refine mx_iconstN 1 dX3_addPart_144 (by decide) ?_
              refine mx_goto (tgt := 149) dX3_addPart_145 (by decide) ?_
              refine mx_top (y := mx_b (decide ((br.2.2 && emp part.2.2 c) = true))) (mx_bT (by rw [c137, c141]; rfl)) ?_
              refine mx_callVi (ci := 4) (As := [.int (nI (br.1 ||| (if br.2.2 = true then part.1 else 0))), .int (nI (part.2.1 ||| (if emp part.2.2 c = true then br.2.1 else 0))), .int (mx_b (decide ((br.2.2 && emp part.2.2 c) = true)))]) (rest := []) dX3_addPart_149 (ct_become G I3 (o + 10 + 2 * op) (br.1 ||| (if br.2.2 = true then part.1 else 0)) (part.2.1 ||| (if emp part.2.2 c = true then br.2.1 else 0)) (br.2.2 && emp part.2.2 c) hb2) km_X4_become rfl k_823 k_824 k_825 (by assumption) rfl rfl (Nat.le_of_ble_eq_true rfl) (by decide) (fun r19 I4 h20 => ?_)
              obtain ⟨e9, m4, m5⟩ := h20
              subst e9
              exact mx_vret dX3_addPart_152 rfl (⟨⟨rfl, m1.fr m5 (by omega), m4, fun a ha hb => (m5 a (by omega)).trans (m3 a ha)⟩, rfl⟩)
        · skip
          refine mx_aload_n (i := 3) (hi := rfl) (hl := rfl) (hd := dX3_addPart_124) ?_
          refine mx_getV (ci := 4) (k := 1) (nI br.2.1) dX3_addPart_125 k_129 (by decide) rfl (by assumption) (hbr.fr m3 (by omega)).2.1 ?_
          refine mx_goto (tgt := 132) dX3_addPart_128 (by decide) ?_
          refine mx_top (y := nI (if emp part.2.2 c = true then br.2.1 else 0)) (by rw [if_pos c121]) ?_
          refine mx_iorN dX3_addPart_132 ?_
          refine mx_aload_n (i := 3) (hi := rfl) (hl := rfl) (hd := dX3_addPart_133) ?_
          refine mx_getV (ci := 4) (k := 2) (mx_b (decide (br.2.2 = true)) : Int32) dX3_addPart_134 k_131 (by decide) rfl (by assumption) (by rw [mx_dec]; exact (hbr.fr m3 (by omega)).2.2) ?_
          refine mx_ifB_eq 148 dX3_addPart_137 (by decide) (fun c137 => ?_) (fun c137 => ?_)
          · skip
            refine mx_iconstN 0 dX3_addPart_148 (by decide) ?_
            refine mx_top (y := mx_b (decide ((br.2.2 && emp part.2.2 c) = true))) (mx_bF (by first | (rw [Bool.eq_false_iff.mpr c137]; exact Bool.noConfusion) | (rw [Bool.eq_false_iff.mpr c141, Bool.and_false]; exact Bool.noConfusion))) ?_
            refine mx_callVi (ci := 4) (As := [.int (nI (br.1 ||| (if br.2.2 = true then part.1 else 0))), .int (nI (part.2.1 ||| (if emp part.2.2 c = true then br.2.1 else 0))), .int (mx_b (decide ((br.2.2 && emp part.2.2 c) = true)))]) (rest := []) dX3_addPart_149 (ct_become G I3 (o + 10 + 2 * op) (br.1 ||| (if br.2.2 = true then part.1 else 0)) (part.2.1 ||| (if emp part.2.2 c = true then br.2.1 else 0)) (br.2.2 && emp part.2.2 c) hb2) km_X4_become rfl k_823 k_824 k_825 (by assumption) rfl rfl (Nat.le_of_ble_eq_true rfl) (by decide) (fun r21 I4 h22 => ?_)
            obtain ⟨e9, m4, m5⟩ := h22
            subst e9
            exact mx_vret dX3_addPart_152 rfl (⟨⟨rfl, m1.fr m5 (by omega), m4, fun a ha hb => (m5 a (by omega)).trans (m3 a ha)⟩, rfl⟩)
          · skip
            refine mx_iload_n (i := 2) (hi := rfl) (hl := rfl) (hd := dX3_addPart_140) ?_
            refine mx_ifB_eq 148 dX3_addPart_141 (by decide) (fun c141 => ?_) (fun c141 => ?_)
            · skip
              refine mx_iconstN 0 dX3_addPart_148 (by decide) ?_
              refine mx_top (y := mx_b (decide ((br.2.2 && emp part.2.2 c) = true))) (mx_bF (by first | (rw [Bool.eq_false_iff.mpr c137]; exact Bool.noConfusion) | (rw [Bool.eq_false_iff.mpr c141, Bool.and_false]; exact Bool.noConfusion))) ?_
              refine mx_callVi (ci := 4) (As := [.int (nI (br.1 ||| (if br.2.2 = true then part.1 else 0))), .int (nI (part.2.1 ||| (if emp part.2.2 c = true then br.2.1 else 0))), .int (mx_b (decide ((br.2.2 && emp part.2.2 c) = true)))]) (rest := []) dX3_addPart_149 (ct_become G I3 (o + 10 + 2 * op) (br.1 ||| (if br.2.2 = true then part.1 else 0)) (part.2.1 ||| (if emp part.2.2 c = true then br.2.1 else 0)) (br.2.2 && emp part.2.2 c) hb2) km_X4_become rfl k_823 k_824 k_825 (by assumption) rfl rfl (Nat.le_of_ble_eq_true rfl) (by decide) (fun r23 I4 h24 => ?_)
              obtain ⟨e9, m4, m5⟩ := h24
              subst e9
              exact mx_vret dX3_addPart_152 rfl (⟨⟨rfl, m1.fr m5 (by omega), m4, fun a ha hb => (m5 a (by omega)).trans (m3 a ha)⟩, rfl⟩)
            · skip
              refine mx_iconstN 1 dX3_addPart_144 (by decide) ?_
              refine mx_goto (tgt := 149) dX3_addPart_145 (by decide) ?_
              refine mx_top (y := mx_b (decide ((br.2.2 && emp part.2.2 c) = true))) (mx_bT (by rw [c137, c141]; rfl)) ?_
              refine mx_callVi (ci := 4) (As := [.int (nI (br.1 ||| (if br.2.2 = true then part.1 else 0))), .int (nI (part.2.1 ||| (if emp part.2.2 c = true then br.2.1 else 0))), .int (mx_b (decide ((br.2.2 && emp part.2.2 c) = true)))]) (rest := []) dX3_addPart_149 (ct_become G I3 (o + 10 + 2 * op) (br.1 ||| (if br.2.2 = true then part.1 else 0)) (part.2.1 ||| (if emp part.2.2 c = true then br.2.1 else 0)) (br.2.2 && emp part.2.2 c) hb2) km_X4_become rfl k_823 k_824 k_825 (by assumption) rfl rfl (Nat.le_of_ble_eq_true rfl) (by decide) (fun r25 I4 h26 => ?_)
              obtain ⟨e9, m4, m5⟩ := h26
              subst e9
              exact mx_vret dX3_addPart_152 rfl (⟨⟨rfl, m1.fr m5 (by omega), m4, fun a ha hb => (m5 a (by omega)).trans (m3 a ha)⟩, rfl⟩)
    refine mx_aload_n (i := 0) (hi := rfl) (hl := rfl) (hd := dX3_addPart_33) ?_
    refine mx_getR (ci := 3) (k := 2) (r := (o + 3)) dX3_addPart_34 k_143 (by decide) rfl (by assumption) (by assumption) (by omega) ?_
    refine mx_getV (ci := 4) (k := 2) (mx_b (decide (part.2.2 = true)) : Int32) dX3_addPart_37 k_131 (by decide) rfl (by assumption) (by rw [mx_dec]; exact (hpa.fr hfr (by omega)).2.2) ?_
    refine mx_ifB_ne 55 dX3_addPart_40 (by decide) (fun c40 => ?_) (fun c40 => ?_)
    · skip
      refine mx_iconstN 1 dX3_addPart_55 (by decide) ?_
      refine mx_goto (tgt := 60) dX3_addPart_56 (by decide) ?_
      refine mx_top (y := mx_b (decide (emp part.2.2 c = true))) (mx_bT (emp_1 (by first | exact Or.inl c40 | exact Or.inr (Or.inl c46) | exact Or.inr (Or.inr c52)))) ?_
      exact J60 ()
    · skip
      refine mx_iload_n (i := 1) (hi := rfl) (hl := rfl) (hd := dX3_addPart_43) ?_
      refine mx_bipushN 42 dX3_addPart_44 (by decide) ?_
      refine mx_cmpN_eq 55 dX3_addPart_46 (by decide) (by omega) (by omega) (fun c46 => ?_) (fun c46 => ?_)
      · skip
        refine mx_iconstN 1 dX3_addPart_55 (by decide) ?_
        refine mx_goto (tgt := 60) dX3_addPart_56 (by decide) ?_
        refine mx_top (y := mx_b (decide (emp part.2.2 c = true))) (mx_bT (emp_1 (by first | exact Or.inl c40 | exact Or.inr (Or.inl c46) | exact Or.inr (Or.inr c52)))) ?_
        exact J60 ()
      · skip
        refine mx_iload_n (i := 1) (hi := rfl) (hl := rfl) (hd := dX3_addPart_49) ?_
        refine mx_bipushN 63 dX3_addPart_50 (by decide) ?_
        refine mx_cmpN_ne 59 dX3_addPart_52 (by decide) (by omega) (by omega) (fun c52 => ?_) (fun c52 => ?_)
        · skip
          refine mx_iconstN 0 dX3_addPart_59 (by decide) ?_
          refine mx_top (y := mx_b (decide (emp part.2.2 c = true))) (mx_bF (emp_0 c40 c46 c52)) ?_
          exact J60 ()
        · skip
          refine mx_iconstN 1 dX3_addPart_55 (by decide) ?_
          refine mx_goto (tgt := 60) dX3_addPart_56 (by decide) ?_
          refine mx_top (y := mx_b (decide (emp part.2.2 c = true))) (mx_bT (emp_1 (by first | exact Or.inl c40 | exact Or.inr (Or.inl c46) | exact Or.inr (Or.inr c52)))) ?_
          exact J60 ()
  refine mx_iload_n (i := 1) (hi := rfl) (hl := rfl) (hd := dX3_addPart_0) ?_
  refine mx_bipushN 42 dX3_addPart_1 (by decide) ?_
  refine mx_cmpN_eq 12 dX3_addPart_3 (by decide) (by omega) (by omega) (fun c3 => ?_) (fun c3 => ?_)
  · skip
    refine mx_aload_n (i := 0) (hi := rfl) (hl := rfl) (hd := dX3_addPart_12) ?_
    refine mx_getR (ci := 3) (k := 3) (r := pt) dX3_addPart_13 k_144 (by decide) rfl (by assumption) (by assumption) (by omega) ?_
    refine mx_aload_n (i := 0) (hi := rfl) (hl := rfl) (hd := dX3_addPart_16) ?_
    refine mx_getR (ci := 3) (k := 2) (r := (o + 3)) dX3_addPart_17 k_143 (by decide) rfl (by assumption) (by assumption) (by omega) ?_
    refine mx_getV (ci := 4) (k := 1) (nI part.2.1) dX3_addPart_20 k_129 (by decide) rfl (by assumption) hpa.2.1 ?_
    refine mx_aload_n (i := 0) (hi := rfl) (hl := rfl) (hd := dX3_addPart_23) ?_
    refine mx_getR (ci := 3) (k := 2) (r := (o + 3)) dX3_addPart_24 k_143 (by decide) rfl (by assumption) (by assumption) (by omega) ?_
    refine mx_getV (ci := 4) (k := 0) (nI part.1) dX3_addPart_27 k_127 (by decide) rfl (by assumption) hpa.1 ?_
    refine mx_callVi (ci := 2) (As := [.int (nI part.2.1), .int (nI part.1)]) (rest := []) dX3_addPart_30 (ct_allow G I pt A hpt hA part.2.1 part.1 hw1.2 hw1.1) km_X2_allow rfl k_840 k_841 k_842 (by assumption) rfl rfl (Nat.le_of_ble_eq_true rfl) (by decide) (fun r27 I2 h28 => ?_)
    obtain ⟨e9, m1, m2⟩ := h28
    subst e9
    exact J33 _ (by rw [if_pos (by omega)]; exact m1) m2
  · skip
    refine mx_iload_n (i := 1) (hi := rfl) (hl := rfl) (hd := dX3_addPart_6) ?_
    refine mx_bipushN 43 dX3_addPart_7 (by decide) ?_
    refine mx_cmpN_ne 33 dX3_addPart_9 (by decide) (by omega) (by omega) (fun c9 => ?_) (fun c9 => ?_)
    · skip
      exact J33 _ (by rw [if_neg (by omega)]; exact hA) (mx_fr.rf _ _ _)
    · skip
      refine mx_aload_n (i := 0) (hi := rfl) (hl := rfl) (hd := dX3_addPart_12) ?_
      refine mx_getR (ci := 3) (k := 3) (r := pt) dX3_addPart_13 k_144 (by decide) rfl (by assumption) (by assumption) (by omega) ?_
      refine mx_aload_n (i := 0) (hi := rfl) (hl := rfl) (hd := dX3_addPart_16) ?_
      refine mx_getR (ci := 3) (k := 2) (r := (o + 3)) dX3_addPart_17 k_143 (by decide) rfl (by assumption) (by assumption) (by omega) ?_
      refine mx_getV (ci := 4) (k := 1) (nI part.2.1) dX3_addPart_20 k_129 (by decide) rfl (by assumption) hpa.2.1 ?_
      refine mx_aload_n (i := 0) (hi := rfl) (hl := rfl) (hd := dX3_addPart_23) ?_
      refine mx_getR (ci := 3) (k := 2) (r := (o + 3)) dX3_addPart_24 k_143 (by decide) rfl (by assumption) (by assumption) (by omega) ?_
      refine mx_getV (ci := 4) (k := 0) (nI part.1) dX3_addPart_27 k_127 (by decide) rfl (by assumption) hpa.1 ?_
      refine mx_callVi (ci := 2) (As := [.int (nI part.2.1), .int (nI part.1)]) (rest := []) dX3_addPart_30 (ct_allow G I pt A hpt hA part.2.1 part.1 hw1.2 hw1.1) km_X2_allow rfl k_840 k_841 k_842 (by assumption) rfl rfl (Nat.le_of_ble_eq_true rfl) (by decide) (fun r29 I2 h30 => ?_)
      obtain ⟨e9, m1, m2⟩ := h30
      subst e9
      exact J33 _ (by rw [if_pos (by omega)]; exact m1) m2
