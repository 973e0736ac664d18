/-! THE REFERENCE: a script's command -/
def wtN (v : Gr) (s : Nat) : Nat := if s < gN v then (if gIx v (gT v s) (gK v s) (gF v s) = none then 0 else 2) else 1
/-- the graph behind a command that changes it -/
def cgG (v : Gr) (ho a b c d : Nat) : Option Gr := match ho with
  | 1 => if gWhy v (nI a) (nI b) (nI c) (nI d) = 0 then some (gPut v a b c d) else none
  | 2 => if c + d = 0 ∧ 10 * a + b < gN v then some (gDrop v (10 * a + b)) else none
  | 3 => if (c = 0 ∧ ¬ d = 0) ∧ 10 * a + b < gN v then some (gCost v (10 * a + b) d) else none
  | 4 => if c + d = 0 ∧ wtN v (10 * a + b) = 0 then some (gRev v (10 * a + b)) else none
  | 5 => if c + d = 0 ∧ a < 4 ∧ b < 4 then some (gSwp v a b) else none
  | _ => none
theorem cgG_1 (v : Gr) (a b c d : Nat) : cgG v 1 a b c d = if gWhy v (nI a) (nI b) (nI c) (nI d) = 0 then some (gPut v a b c d) else none := by unfold cgG; rfl
theorem cgG_2 (v : Gr) (a b c d : Nat) : cgG v 2 a b c d = if c + d = 0 ∧ 10 * a + b < gN v then some (gDrop v (10 * a + b)) else none := by unfold cgG; rfl
theorem cgG_3 (v : Gr) (a b c d : Nat) : cgG v 3 a b c d = if (c = 0 ∧ ¬ d = 0) ∧ 10 * a + b < gN v then some (gCost v (10 * a + b) d) else none := by unfold cgG; rfl
theorem cgG_4 (v : Gr) (a b c d : Nat) : cgG v 4 a b c d = if c + d = 0 ∧ wtN v (10 * a + b) = 0 then some (gRev v (10 * a + b)) else none := by unfold cgG; rfl
theorem cgG_5 (v : Gr) (a b c d : Nat) : cgG v 5 a b c d = if c + d = 0 ∧ a < 4 ∧ b < 4 then some (gSwp v a b) else none := by unfold cgG; rfl
theorem cgG_0 (v : Gr) (a b c d : Nat) : cgG v 0 a b c d = none := by unfold cgG; rfl
theorem cgG_6 (v : Gr) (a b c d : Nat) : cgG v 6 a b c d = none := by unfold cgG; rfl
theorem cgG_7 (v : Gr) (a b c d : Nat) : cgG v 7 a b c d = none := by unfold cgG; rfl
theorem cgG_8 (v : Gr) (a b c d : Nat) : cgG v 8 a b c d = none := by unfold cgG; rfl
theorem cgG_9 (v : Gr) (a b c d : Nat) : cgG v 9 a b c d = none := by unfold cgG; rfl
noncomputable abbrev bG (v : Gr) (A : Pa) (p q : Nat) : Option (Nat × Nat) := bR v A (prM v none) (tgA A q) p 0
noncomputable abbrev ndS (v : Gr) (A : Pa) (p q : Nat) : Nat := if bG v A p q = none then 0 else ndM v A p q (gN v)
/-- whether a command that asks holds -/
def hdM (v : Gr) (A : Pa) (ho a b c d : Nat) : Prop := match ho with
  | 6 => (a < gP v ∧ b < gP v) ∧ ∃ y, bG v A a b = some y ∧ y.1 ≤ 10 * c + d
  | 7 => ((a < gP v ∧ b < gP v) ∧ c = 0) ∧ ∃ y, bG v A a b = some y ∧ y.2 ≤ d
  | 8 => (b + c = 0 ∧ a < gP v) ∧ d ≤ onM (rcM v A (prM v none) a (gP v)) 24
  | 9 => ((10 * a + b < gN v ∧ c < gP v) ∧ d < gP v) ∧ (ndS v A c d).testBit (10 * a + b) = true
  | _ => False
theorem hdM_6 (v : Gr) (A : Pa) (a b c d : Nat) : hdM v A 6 a b c d = ((a < gP v ∧ b < gP v) ∧ ∃ y, bG v A a b = some y ∧ y.1 ≤ 10 * c + d) := by unfold hdM; rfl
theorem hdM_7 (v : Gr) (A : Pa) (a b c d : Nat) : hdM v A 7 a b c d = (((a < gP v ∧ b < gP v) ∧ c = 0) ∧ ∃ y, bG v A a b = some y ∧ y.2 ≤ d) := by unfold hdM; rfl
theorem hdM_8 (v : Gr) (A : Pa) (a b c d : Nat) : hdM v A 8 a b c d = ((b + c = 0 ∧ a < gP v) ∧ d ≤ onM (rcM v A (prM v none) a (gP v)) 24) := by unfold hdM; rfl
theorem hdM_9 (v : Gr) (A : Pa) (a b c d : Nat) : hdM v A 9 a b c d = (((10 * a + b < gN v ∧ c < gP v) ∧ d < gP v) ∧ (ndS v A c d).testBit (10 * a + b) = true) := by unfold hdM; rfl
theorem hdM_0 {v : Gr} {A : Pa} {ho a b c d : Nat} (h : ho < 6) : ¬ hdM v A ho a b c d := by
  rcases (show ho = 0 ∨ ho = 1 ∨ ho = 2 ∨ ho = 3 ∨ ho = 4 ∨ ho = 5 by omega) with rfl | rfl | rfl | rfl | rfl | rfl <;> exact fun q => q
def cmC (v : Gr) (A : Pa) (ho a b c d : Nat) : Prop := (∃ w, cgG v ho a b c d = some w) ∨ hdM v A ho a b c d
noncomputable def cmB (v : Gr) (A : Pa) (ho a b c d : Nat) : Bool := @decide (cmC v A ho a b c d) (Classical.propDecidable _)
theorem cmB_iff {v : Gr} {A : Pa} {ho a b c d : Nat} : cmB v A ho a b c d = true ↔ cmC v A ho a b c d := by
  unfold cmB
  exact @decide_eq_true_iff _ (Classical.propDecidable _)
def cmV (v : Gr) (ho a b c d : Nat) : Gr := (cgG v ho a b c d).getD v
def cmQ (I : mx_I) (m : Nat) (x : Vl) (ho a b c d : Nat) (rv : Option Value) (I1 : mx_I) : Prop := rv = some (.int (mx_b (decide (cmB x.1 (vA x) ho a b c d = true)))) ∧ vpF (I1 (m + 4)) (cmV x.1 ho a b c d, x.2) ∧ gN (cmV x.1 ho a b c d) ≤ 24 ∧ sS I I1 m
section
variable {I I1 : mx_I} {m ho a b c d : Nat} {x : Vl}
theorem sS.rf : sS I I m := ⟨fun _ _ => rfl, fun _ _ => rfl⟩
theorem sS.g (n : mx_fr I I1 (m + 4) (m + 4 + 1)) : sS I I1 m := ⟨fun b hb => n b (by omega), fun j hj => by rw [n m (by omega)]⟩
theorem cm_f (hcg : cgG x.1 ho a b c d = none) (hh : ¬ hdM x.1 (vA x) ho a b c d) (hv : vpF (I1 (m + 4)) x) (h24 : gN x.1 ≤ 24) (hS : sS I I1 m) : cmQ I m x ho a b c d (some (.int (nI 0))) I1 := by
  have e : cmV x.1 ho a b c d = x.1 := by unfold cmV; rw [hcg]; rfl
  refine ⟨congrArg (fun z => some (Value.int z)) (mx_bF (fun q => (cmB_iff.mp q).elim (fun w => by rw [hcg] at w; exact nomatch w) hh)), ?_, ?_, hS⟩
  · rw [e]; exact hv
  · rw [e]; exact h24
theorem cm_q (hcg : cgG x.1 ho a b c d = none) (hh : hdM x.1 (vA x) ho a b c d) (hv : vpF (I1 (m + 4)) x) (h24 : gN x.1 ≤ 24) (hS : sS I I1 m) : cmQ I m x ho a b c d (some (.int (nI 1))) I1 := by
  have e : cmV x.1 ho a b c d = x.1 := by unfold cmV; rw [hcg]; rfl
  refine ⟨congrArg (fun z => some (Value.int z)) (mx_bT (cmB_iff.mpr (Or.inr hh))), ?_, ?_, hS⟩
  · rw [e]; exact hv
  · rw [e]; exact h24
theorem cm_t {w : Gr} (hcg : cgG x.1 ho a b c d = some w) (hv : vpF (I1 (m + 4)) (w, x.2)) (h24 : gN w ≤ 24) (hS : sS I I1 m) : cmQ I m x ho a b c d (some (.int (nI 1))) I1 := by
  have e : cmV x.1 ho a b c d = w := by unfold cmV; rw [hcg]; rfl
  refine ⟨congrArg (fun z => some (Value.int z)) (mx_bT (cmB_iff.mpr (Or.inl ⟨w, hcg⟩))), ?_, ?_, hS⟩
  · rw [e]; exact hv
  · rw [e]; exact h24
end
theorem en_q1 {x : Option (Nat × Nat)} (he : eb x) (N : Nat) : (∃ y, x = some y ∧ y.1 ≤ N) ↔ (¬ 100000000 ≤ enM x ∧ enM x / 1000 ≤ N) := by
  cases x with
  | none => exact ⟨fun ⟨y, h, _⟩ => (nomatch h), fun q => absurd (Nat.le_refl 100000000) q.1⟩
  | some y =>
    have h := he y rfl
    have e : enM (some y) = 1000 * y.1 + y.2 := rfl
    rw [e]
    constructor
    · rintro ⟨y', hy, hN⟩
      cases hy
      omega
    · intro q
      exact ⟨y, rfl, by omega⟩
theorem en_q2 {x : Option (Nat × Nat)} (he : eb x) (N : Nat) : (∃ y, x = some y ∧ y.2 ≤ N) ↔ (¬ 100000000 ≤ enM x ∧ enM x % 1000 ≤ N) := by
  cases x with
  | none => exact ⟨fun ⟨y, h, _⟩ => (nomatch h), fun q => absurd (Nat.le_refl 100000000) q.1⟩
  | some y =>
    have h := he y rfl
    have e : enM (some y) = 1000 * y.1 + y.2 := rfl
    rw [e]
    constructor
    · rintro ⟨y', hy, hN⟩
      cases hy
      omega
    · intro q
      exact ⟨y, rfl, by omega⟩
theorem rcM_lt (v : Gr) (A : Pa) (pr : Nat → Nat) (p : Nat) : ∀ n, rcM v A pr p n < 2 ^ n
  | 0 => Nat.one_pos
  | n + 1 => by
    have h := rcM_lt v A pr p n
    refine Nat.or_lt_two_pow (Nat.lt_trans h (Nat.pow_lt_pow_right (by decide) (Nat.lt_succ_self n))) ?_
    split
    · exact Nat.two_pow_pos _
    · exact Nat.pow_lt_pow_right (by decide) (Nat.lt_succ_self n)
theorem ndM_lt (v : Gr) (A : Pa) (p q : Nat) : ∀ n, ndM v A p q n < 2 ^ n
  | 0 => Nat.one_pos
  | n + 1 => by
    have h := ndM_lt v A p q n
    refine Nat.or_lt_two_pow (Nat.lt_trans h (Nat.pow_lt_pow_right (by decide) (Nat.lt_succ_self n))) ?_
    split
    · exact Nat.pow_lt_pow_right (by decide) (Nat.lt_succ_self n)
    · exact Nat.two_pow_pos _
theorem onM_le (x : Nat) : ∀ n, onM x n ≤ n
  | 0 => Nat.le_refl _
  | n + 1 => by
    have := onM_le x n
    show onM x n + _ ≤ n + 1
    split <;> omega
theorem mt_whyNotTurnN (G : mx_G) (I : mx_I) (g : Nat) (v : Gr) (ht : mx_tg G g = 1) (hl : mx_ln G g = 143) (hg : gaF (I g) v) (s : Nat) (hs : s < 2 ^ 31) : mx_CTp yX10_whyNotTurn mX10_whyNotTurn 3 [.ref g, .int (nI s)] G I (some (.int (nI (wtN v s)))) :=
  (mt_whyNotTurn G I g v ht hl hg (nI s)).eq rfl (congrArg (fun z => some (Value.int (nI z))) (by
    rw [nI_toInt hs]
    unfold wtN
    by_cases c : s < gN v
    · rw [if_neg (fun q => q ⟨by omega, by omega⟩), if_pos c]; rfl
    · rw [if_pos (fun q => c (by omega)), if_neg c]))

theorem wtN_le (v : Gr) (s : Nat) : wtN v s ≤ 2 := by
  unfold wtN
  split
  · split <;> decide
  · decide
theorem wtN_lt {v : Gr} {s : Nat} (h : wtN v s = 0) : s < gN v := by
  unfold wtN at h
  split at h
  · assumption
  · cases h
theorem gCh_le (g : Nat → Nat) (k l : Nat) : ∀ n, gCh g k l n ≤ n
  | 0 => Nat.le_refl _
  | n + 1 => by
    have := gCh_le g k l n
    unfold gCh
    split <;> omega
theorem ndS_31 (v : Gr) (A : Pa) (p q : Nat) (h : gN v ≤ 24) : ndS v A p q < 2 ^ 31 := by
  show (if bG v A p q = none then 0 else ndM v A p q (gN v)) < 2 ^ 31
  split
  · decide
  · exact Nat.lt_of_lt_of_le (ndM_lt _ _ _ _ _) (Nat.pow_le_pow_right (by decide) (by omega))

set_option maxHeartbeats 4000000 in
set_option maxRecDepth 100000 in
theorem mt_command (G : mx_G) (I : mx_I) (m : Nat) (hs : oMD G m) (x : Vl) (hsz : m + 23 ≤ mx_sz G) (hv : vpF (I (m + 4)) x) (h24 : gN x.1 ≤ 24) (ho ca cb cc cd : Nat) (hho : ho ≤ 9) (hca : ca ≤ 9) (hcb : cb ≤ 9) (hcc : cc ≤ 9) (hcd : cd ≤ 9) : mx_CTi yX10_command mX10_command 7 [.ref m, .int (nI ho), .int (nI ca), .int (nI cb), .int (nI cc), .int (nI cd)] G I (fun rv I1 => cmQ I m x ho ca cb cc cd rv I1) := by
  refine mx_start (k := 2) (by decide) rfl rfl (fun h => nomatch h) (Nat.le_of_ble_eq_true rfl) ?_
  show mx_V mX10_command mx_S0 7 0 0 0 [some (.ref m), some (.int (nI ho)), some (.int (nI ca)), some (.int (nI cb)), some (.int (nI cc)), some (.int (nI cd)), none, none] [] G I (fun rv Gz Iz => (fun rv I1 => cmQ I m x ho ca cb cc cd rv I1) rv Iz ∧ Gz = G) (fun _ _ _ => False)
  have hs0 := hs
  obtain ⟨tgm, -, -, -, ⟨r_trial, t_trial, l_trial⟩, -⟩ := hs
  have hg : gaF (I (m + 4)) x.1 := hv.1
  have hP8 : gP x.1 ≤ 8 := hg.1.1
  have tca : (nI ca).toInt = (ca : Int) := nI_toInt (by omega)
  have tcb : (nI cb).toInt = (cb : Int) := nI_toInt (by omega)
  have tcc : (nI cc).toInt = (cc : Int) := nI_toInt (by omega)
  have tcd : (nI cd).toInt = (cd : Int) := nI_toInt (by omega)
  refine mx_bipushN 10 dX10_command_0 (by decide) ?_
  refine mx_iload_n (i := 2) (hi := rfl) (hl := rfl) (hd := dX10_command_2) ?_
  refine mx_imulN dX10_command_3 ?_
  refine mx_iload_n (i := 3) (hi := rfl) (hl := rfl) (hd := dX10_command_4) ?_
  refine mx_iaddN dX10_command_5 ?_
  refine mx_istoreE (i := 6) (ls' := [some (.ref m), some (.int (nI ho)), some (.int (nI ca)), some (.int (nI cb)), some (.int (nI cc)), some (.int (nI cd)), some (.int (nI ((10 * ca) + cb))), none]) (hd := dX10_command_6) (hn := by decide) (hok := rfl) (hls := rfl) ?_
  refine mx_iload_n (i := 1) (hi := rfl) (hl := rfl) (hd := dX10_command_8) ?_
  rcases (show ho = 0 ∨ ho = 1 ∨ ho = 2 ∨ ho = 3 ∨ ho = 4 ∨ ho = 5 ∨ ho = 6 ∨ ho = 7 ∨ ho = 8 ∨ ho = 9 by omega) with rfl | rfl | rfl | rfl | rfl | rfl | rfl | rfl | rfl | rfl
  · skip
    refine mx_tabOut (tgt := 450) dX10_command_9 (by decide) (by decide) ?_
    refine mx_iconstN 0 dX10_command_450 (by decide) ?_
    exact mx_iret dX10_command_451 rfl (by decide) (⟨cm_f (cgG_0 _ _ _ _ _) (hdM_0 (by decide)) hv h24 sS.rf, rfl⟩)
  · skip
    refine mx_tabIn (tgt := 60) dX10_command_9 (by decide) (by decide) rfl (by decide) ?_
    refine mx_aload_n (i := 0) (hi := rfl) (hl := rfl) (hd := dX10_command_60) ?_
    refine mx_getR (ci := 10) (k := 6) (r := (m + 4)) dX10_command_61 k_1019 (by decide) rfl (by assumption) (by assumption) (by omega) ?_
    refine mx_iload_n (i := 2) (hi := rfl) (hl := rfl) (hd := dX10_command_64) ?_
    refine mx_iload_n (i := 3) (hi := rfl) (hl := rfl) (hd := dX10_command_65) ?_
    refine mx_iload (i := 4) (hl := rfl) (hd := dX10_command_66) ?_
    refine mx_iload (i := 5) (hl := rfl) (hd := dX10_command_68) ?_
    refine mx_callSp (As := [.ref (m + 4), .int (nI ca), .int (nI cb), .int (nI cc), .int (nI cd)]) (rest := []) dX10_command_70 (mt_whyNotAdd G I (m + 4) x.1 t_trial l_trial hg h24 (nI ca) (nI cb) (nI cc) (nI cd)) km_X10_whyNotAdd rfl k_1274 k_1275 rfl rfl (Nat.le_of_ble_eq_true rfl) (by decide) ?_
    refine mx_ifN_ne 96 dX10_command_73 (by decide) (Nat.lt_of_le_of_lt (gWhy_le _ _ _ _ _) (by decide)) (fun c73 => ?_) (fun c73 => ?_)
    · skip
      refine mx_iconstN 0 dX10_command_96 (by decide) ?_
      exact mx_iret dX10_command_97 rfl (by decide) (⟨cm_f (by rw [cgG_1, if_neg (c73)]) (hdM_0 (by decide)) hv h24 sS.rf, rfl⟩)
    · skip
      obtain ⟨k1, k2, k3, k4, k5, k6⟩ := gWhy_0 c73
      refine mx_aload_n (i := 0) (hi := rfl) (hl := rfl) (hd := dX10_command_76) ?_
      refine mx_getR (ci := 10) (k := 6) (r := (m + 4)) dX10_command_77 k_1019 (by decide) rfl (by assumption) (by assumption) (by omega) ?_
      refine mx_iload_n (i := 2) (hi := rfl) (hl := rfl) (hd := dX10_command_80) ?_
      refine mx_iload_n (i := 3) (hi := rfl) (hl := rfl) (hd := dX10_command_81) ?_
      refine mx_iload (i := 4) (hl := rfl) (hd := dX10_command_82) ?_
      refine mx_iload (i := 5) (hl := rfl) (hd := dX10_command_84) ?_
      refine mx_callSi (As := [.ref (m + 4), .int (nI ca), .int (nI cb), .int (nI cc), .int (nI cd)]) (rest := []) dX10_command_86 (mt_add G I (m + 4) x.1 t_trial l_trial hg ca cb cc cd (by omega) (by omega) (by omega) (by omega) h24) km_X10_add rfl k_1183 k_1184 rfl rfl (Nat.le_of_ble_eq_true rfl) (by decide) (fun r1 I2 h2 => ?_)
      obtain ⟨e9, n1, n2, n3⟩ := h2
      subst e9
      refine mx_ifN_lt 96 dX10_command_89 (by decide) (by omega) (fun c89 => ?_) (fun c89 => ?_)
      · skip
        exact absurd c89 (Nat.not_lt_zero _)
      · skip
        refine mx_iconstN 1 dX10_command_92 (by decide) ?_
        refine mx_goto (tgt := 97) dX10_command_93 (by decide) ?_
        exact mx_iret dX10_command_97 rfl (by decide) (⟨cm_t (by rw [cgG_1, if_pos (c73)]) (hv.put n1 n2) (by show gN x.1 + 1 ≤ 24; omega) (sS.g n3), rfl⟩)
  · skip
    refine mx_tabIn (tgt := 98) dX10_command_9 (by decide) (by decide) rfl (by decide) ?_
    refine mx_iload (i := 4) (hl := rfl) (hd := dX10_command_98) ?_
    refine mx_iload (i := 5) (hl := rfl) (hd := dX10_command_100) ?_
    refine mx_iaddN dX10_command_102 ?_
    refine mx_ifN_gt 118 dX10_command_103 (by decide) (by omega) (fun c103 => ?_) (fun c103 => ?_)
    · skip
      refine mx_iconstN 0 dX10_command_118 (by decide) ?_
      exact mx_iret dX10_command_119 rfl (by decide) (⟨cm_f (by rw [cgG_2, if_neg (fun q => (by first | exact absurd q.1 (by omega) | exact c115 q.2))]) (hdM_0 (by decide)) hv h24 sS.rf, rfl⟩)
    · skip
      refine mx_aload_n (i := 0) (hi := rfl) (hl := rfl) (hd := dX10_command_106) ?_
      refine mx_getR (ci := 10) (k := 6) (r := (m + 4)) dX10_command_107 k_1019 (by decide) rfl (by assumption) (by assumption) (by omega) ?_
      refine mx_iload (i := 6) (hl := rfl) (hd := dX10_command_110) ?_
      refine mx_callSp (As := [.ref (m + 4), .int (nI ((10 * ca) + cb))]) (rest := []) dX10_command_112 (mt_isStepN G I (m + 4) x.1 t_trial l_trial hg (10 * ca + cb) (by omega)) km_X10_isStep rfl k_1235 k_1236 rfl rfl (Nat.le_of_ble_eq_true rfl) (by decide) ?_
      refine mx_ifB_ne 120 dX10_command_115 (by decide) (fun c115 => ?_) (fun c115 => ?_)
      · skip
        refine mx_aload_n (i := 0) (hi := rfl) (hl := rfl) (hd := dX10_command_120) ?_
        refine mx_getR (ci := 10) (k := 6) (r := (m + 4)) dX10_command_121 k_1019 (by decide) rfl (by assumption) (by assumption) (by omega) ?_
        refine mx_iload (i := 6) (hl := rfl) (hd := dX10_command_124) ?_
        refine mx_callSi (As := [.ref (m + 4), .int (nI ((10 * ca) + cb))]) (rest := []) dX10_command_126 (mt_cut G I (m + 4) x.1 t_trial l_trial hg (10 * ca + cb) c115) km_X10_cut rfl k_1282 k_1283 rfl rfl (Nat.le_of_ble_eq_true rfl) (by decide) (fun r3 I2 h4 => ?_)
        obtain ⟨e9, n1, n2, n3⟩ := h4
        subst e9
        refine mx_iconstN 1 dX10_command_129 (by decide) ?_
        exact mx_iret dX10_command_130 rfl (by decide) (⟨cm_t (by rw [cgG_2, if_pos (⟨by omega, c115⟩)]) (hv.put n1 n2) (by show gN x.1 - 1 ≤ 24; omega) (sS.g n3), rfl⟩)
      · skip
        refine mx_iconstN 0 dX10_command_118 (by decide) ?_
        exact mx_iret dX10_command_119 rfl (by decide) (⟨cm_f (by rw [cgG_2, if_neg (fun q => (by first | exact absurd q.1 (by omega) | exact c115 q.2))]) (hdM_0 (by decide)) hv h24 sS.rf, rfl⟩)
  · skip
    refine mx_tabIn (tgt := 131) dX10_command_9 (by decide) (by decide) rfl (by decide) ?_
    refine mx_iload (i := 4) (hl := rfl) (hd := dX10_command_131) ?_
    refine mx_ifN_gt 153 dX10_command_133 (by decide) (by omega) (fun c133 => ?_) (fun c133 => ?_)
    · skip
      refine mx_iconstN 0 dX10_command_153 (by decide) ?_
      exact mx_iret dX10_command_154 rfl (by decide) (⟨cm_f (by rw [cgG_3, if_neg (fun q => (by first | exact absurd q.1.1 (by omega) | exact q.1.2 c138 | exact c150 q.2))]) (hdM_0 (by decide)) hv h24 sS.rf, rfl⟩)
    · skip
      refine mx_iload (i := 5) (hl := rfl) (hd := dX10_command_136) ?_
      refine mx_ifN_eq 153 dX10_command_138 (by decide) (by omega) (fun c138 => ?_) (fun c138 => ?_)
      · skip
        refine mx_iconstN 0 dX10_command_153 (by decide) ?_
        exact mx_iret dX10_command_154 rfl (by decide) (⟨cm_f (by rw [cgG_3, if_neg (fun q => (by first | exact absurd q.1.1 (by omega) | exact q.1.2 c138 | exact c150 q.2))]) (hdM_0 (by decide)) hv h24 sS.rf, rfl⟩)
      · skip
        refine mx_aload_n (i := 0) (hi := rfl) (hl := rfl) (hd := dX10_command_141) ?_
        refine mx_getR (ci := 10) (k := 6) (r := (m + 4)) dX10_command_142 k_1019 (by decide) rfl (by assumption) (by assumption) (by omega) ?_
        refine mx_iload (i := 6) (hl := rfl) (hd := dX10_command_145) ?_
        refine mx_callSp (As := [.ref (m + 4), .int (nI ((10 * ca) + cb))]) (rest := []) dX10_command_147 (mt_isStepN G I (m + 4) x.1 t_trial l_trial hg (10 * ca + cb) (by omega)) km_X10_isStep rfl k_1235 k_1236 rfl rfl (Nat.le_of_ble_eq_true rfl) (by decide) ?_
        refine mx_ifB_ne 155 dX10_command_150 (by decide) (fun c150 => ?_) (fun c150 => ?_)
        · skip
          refine mx_aload_n (i := 0) (hi := rfl) (hl := rfl) (hd := dX10_command_155) ?_
          refine mx_getR (ci := 10) (k := 6) (r := (m + 4)) dX10_command_156 k_1019 (by decide) rfl (by assumption) (by assumption) (by omega) ?_
          refine mx_iload (i := 6) (hl := rfl) (hd := dX10_command_159) ?_
          refine mx_callSp (As := [.int (nI ((10 * ca) + cb))]) (rest := [.ref (m + 4)]) dX10_command_161 (mt_at G I ((10 * ca) + cb)) km_X10_at rfl k_1180 k_1181 rfl rfl (Nat.le_of_ble_eq_true rfl) (by decide) ?_
          refine mx_iconstN 3 dX10_command_164 (by decide) ?_
          refine mx_iaddN dX10_command_165 ?_
          refine mx_iload (i := 5) (hl := rfl) (hd := dX10_command_166) ?_
          refine mx_iast (3 + 4 * (10 * ca + cb) + 3) dX10_command_168 (by assumption) ⟨rfl, by rw [l_trial]; omega, by rw [l_trial]; decide⟩ ?_
          refine mx_iconstN 1 dX10_command_169 (by decide) ?_
          exact mx_iret dX10_command_170 rfl (by decide) (⟨cm_t (by rw [cgG_3, if_pos ⟨⟨by omega, c138⟩, c150⟩]) (hv.put (hg.cost c150 ⟨by omega, hcd⟩ (by rw [mx_u_at, if_pos ⟨rfl, rfl⟩]) (fun k hk => by rw [mx_u_at, if_neg (by omega)])) (fun k hk => by rw [mx_u_at, if_neg (by omega)])) h24 (sS.g (by intro b hb; funext k; rw [mx_u_at, if_neg (by omega)])), rfl⟩)
        · skip
          refine mx_iconstN 0 dX10_command_153 (by decide) ?_
          exact mx_iret dX10_command_154 rfl (by decide) (⟨cm_f (by rw [cgG_3, if_neg (fun q => (by first | exact absurd q.1.1 (by omega) | exact q.1.2 c138 | exact c150 q.2))]) (hdM_0 (by decide)) hv h24 sS.rf, rfl⟩)
  · skip
    refine mx_tabIn (tgt := 171) dX10_command_9 (by decide) (by decide) rfl (by decide) ?_
    refine mx_iload (i := 4) (hl := rfl) (hd := dX10_command_171) ?_
    refine mx_iload (i := 5) (hl := rfl) (hd := dX10_command_173) ?_
    refine mx_iaddN dX10_command_175 ?_
    refine mx_ifN_ne 207 dX10_command_176 (by decide) (by omega) (fun c176 => ?_) (fun c176 => ?_)
    · skip
      refine mx_iconstN 0 dX10_command_207 (by decide) ?_
      exact mx_iret dX10_command_208 rfl (by decide) (⟨cm_f (by rw [cgG_4, if_neg (fun q => (by first | exact absurd q.1 (by omega) | exact c188 q.2))]) (hdM_0 (by decide)) hv h24 sS.rf, rfl⟩)
    · skip
      refine mx_aload_n (i := 0) (hi := rfl) (hl := rfl) (hd := dX10_command_179) ?_
      refine mx_getR (ci := 10) (k := 6) (r := (m + 4)) dX10_command_180 k_1019 (by decide) rfl (by assumption) (by assumption) (by omega) ?_
      refine mx_iload (i := 6) (hl := rfl) (hd := dX10_command_183) ?_
      refine mx_callSp (As := [.ref (m + 4), .int (nI ((10 * ca) + cb))]) (rest := []) dX10_command_185 (mt_whyNotTurnN G I (m + 4) x.1 t_trial l_trial hg (10 * ca + cb) (by omega)) km_X10_whyNotTurn rfl k_1293 k_1294 rfl rfl (Nat.le_of_ble_eq_true rfl) (by decide) ?_
      refine mx_ifN_ne 207 dX10_command_188 (by decide) (Nat.lt_of_le_of_lt (wtN_le _ _) (by decide)) (fun c188 => ?_) (fun c188 => ?_)
      · skip
        refine mx_iconstN 0 dX10_command_207 (by decide) ?_
        exact mx_iret dX10_command_208 rfl (by decide) (⟨cm_f (by rw [cgG_4, if_neg (fun q => (by first | exact absurd q.1 (by omega) | exact c188 q.2))]) (hdM_0 (by decide)) hv h24 sS.rf, rfl⟩)
      · skip
        refine mx_aload_n (i := 0) (hi := rfl) (hl := rfl) (hd := dX10_command_191) ?_
        refine mx_getR (ci := 10) (k := 6) (r := (m + 4)) dX10_command_192 k_1019 (by decide) rfl (by assumption) (by assumption) (by omega) ?_
        refine mx_iload (i := 6) (hl := rfl) (hd := dX10_command_195) ?_
        refine mx_callSi (As := [.ref (m + 4), .int (nI ((10 * ca) + cb))]) (rest := []) dX10_command_197 (mt_turnOn G I (m + 4) x.1 t_trial l_trial hg (10 * ca + cb) (wtN_lt c188)) km_X10_turnOn rfl k_1296 k_1297 rfl rfl (Nat.le_of_ble_eq_true rfl) (by decide) (fun r5 I2 h6 => ?_)
        obtain ⟨e9, n1, n2, n3⟩ := h6
        subst e9
        refine mx_ifN_lt 207 dX10_command_200 (by decide) (by have := hg.1.2.2 _ (wtN_lt c188); omega) (fun c200 => ?_) (fun c200 => ?_)
        · skip
          exact absurd c200 (Nat.not_lt_zero _)
        · skip
          refine mx_iconstN 1 dX10_command_203 (by decide) ?_
          refine mx_goto (tgt := 208) dX10_command_204 (by decide) ?_
          exact mx_iret dX10_command_208 rfl (by decide) (⟨cm_t (by rw [cgG_4, if_pos (⟨by omega, c188⟩)]) (hv.put n1 n2) (h24) (sS.g n3), rfl⟩)
  · skip
    refine mx_tabIn (tgt := 209) dX10_command_9 (by decide) (by decide) rfl (by decide) ?_
    refine mx_iload (i := 4) (hl := rfl) (hd := dX10_command_209) ?_
    refine mx_iload (i := 5) (hl := rfl) (hd := dX10_command_211) ?_
    refine mx_iaddN dX10_command_213 ?_
    refine mx_ifN_ne 243 dX10_command_214 (by decide) (by omega) (fun c214 => ?_) (fun c214 => ?_)
    · skip
      refine mx_iconstN 0 dX10_command_243 (by decide) ?_
      exact mx_iret dX10_command_244 rfl (by decide) (⟨cm_f (by rw [cgG_5, if_neg (fun q => (by omega))]) (hdM_0 (by decide)) hv h24 sS.rf, rfl⟩)
    · skip
      refine mx_iload_n (i := 2) (hi := rfl) (hl := rfl) (hd := dX10_command_217) ?_
      refine mx_iconstN 4 dX10_command_218 (by decide) ?_
      refine mx_cmpN_ge 243 dX10_command_219 (by decide) (by omega) (by omega) (fun c219 => ?_) (fun c219 => ?_)
      · skip
        refine mx_iconstN 0 dX10_command_243 (by decide) ?_
        exact mx_iret dX10_command_244 rfl (by decide) (⟨cm_f (by rw [cgG_5, if_neg (fun q => (by omega))]) (hdM_0 (by decide)) hv h24 sS.rf, rfl⟩)
      · skip
        refine mx_iload_n (i := 3) (hi := rfl) (hl := rfl) (hd := dX10_command_222) ?_
        refine mx_iconstN 4 dX10_command_223 (by decide) ?_
        refine mx_cmpN_ge 243 dX10_command_224 (by decide) (by omega) (by omega) (fun c224 => ?_) (fun c224 => ?_)
        · skip
          refine mx_iconstN 0 dX10_command_243 (by decide) ?_
          exact mx_iret dX10_command_244 rfl (by decide) (⟨cm_f (by rw [cgG_5, if_neg (fun q => (by omega))]) (hdM_0 (by decide)) hv h24 sS.rf, rfl⟩)
        · skip
          refine mx_aload_n (i := 0) (hi := rfl) (hl := rfl) (hd := dX10_command_227) ?_
          refine mx_getR (ci := 10) (k := 6) (r := (m + 4)) dX10_command_228 k_1019 (by decide) rfl (by assumption) (by assumption) (by omega) ?_
          refine mx_iload_n (i := 2) (hi := rfl) (hl := rfl) (hd := dX10_command_231) ?_
          refine mx_iload_n (i := 3) (hi := rfl) (hl := rfl) (hd := dX10_command_232) ?_
          refine mx_callSi (As := [.ref (m + 4), .int (nI ca), .int (nI cb)]) (rest := []) dX10_command_233 (mt_exchangeOn G I (m + 4) x.1 t_trial l_trial hg ca cb (by omega) (by omega)) km_X10_exchangeOn rfl k_1303 k_1304 rfl rfl (Nat.le_of_ble_eq_true rfl) (by decide) (fun r7 I2 h8 => ?_)
          obtain ⟨e9, n1, n2, n3⟩ := h8
          subst e9
          refine mx_ifN_lt 243 dX10_command_236 (by decide) (Nat.lt_of_le_of_lt (gCh_le _ _ _ _) (by omega)) (fun c236 => ?_) (fun c236 => ?_)
          · skip
            exact absurd c236 (Nat.not_lt_zero _)
          · skip
            refine mx_iconstN 1 dX10_command_239 (by decide) ?_
            refine mx_goto (tgt := 244) dX10_command_240 (by decide) ?_
            exact mx_iret dX10_command_244 rfl (by decide) (⟨cm_t (by rw [cgG_5, if_pos (⟨by omega, by omega, by omega⟩)]) (hv.put n1 n2) (h24) (sS.g n3), rfl⟩)
  · skip
    refine mx_tabIn (tgt := 245) dX10_command_9 (by decide) (by decide) rfl (by decide) ?_
    refine mx_aload_n (i := 0) (hi := rfl) (hl := rfl) (hd := dX10_command_245) ?_
    refine mx_getR (ci := 10) (k := 6) (r := (m + 4)) dX10_command_246 k_1019 (by decide) rfl (by assumption) (by assumption) (by omega) ?_
    refine mx_iload_n (i := 2) (hi := rfl) (hl := rfl) (hd := dX10_command_249) ?_
    refine mx_callSp (As := [.ref (m + 4), .int (nI ca)]) (rest := []) dX10_command_250 (mt_isPersonN G I (m + 4) x.1 t_trial l_trial hg ca (by omega)) km_X10_isPerson rfl k_1243 k_1244 rfl rfl (Nat.le_of_ble_eq_true rfl) (by decide) ?_
    refine mx_ifB_eq 278 dX10_command_253 (by decide) (fun c253 => ?_) (fun c253 => ?_)
    · skip
      refine mx_iconstN 0 dX10_command_278 (by decide) ?_
      exact mx_iret dX10_command_279 rfl (by decide) (⟨cm_f (cgG_6 _ _ _ _ _) (by rw [hdM_6]; exact fun q => (by first | exact c253 q.1.1 | exact c264 q.1.2)) hv h24 sS.rf, rfl⟩)
    · skip
      refine mx_aload_n (i := 0) (hi := rfl) (hl := rfl) (hd := dX10_command_256) ?_
      refine mx_getR (ci := 10) (k := 6) (r := (m + 4)) dX10_command_257 k_1019 (by decide) rfl (by assumption) (by assumption) (by omega) ?_
      refine mx_iload_n (i := 3) (hi := rfl) (hl := rfl) (hd := dX10_command_260) ?_
      refine mx_callSp (As := [.ref (m + 4), .int (nI cb)]) (rest := []) dX10_command_261 (mt_isPersonN G I (m + 4) x.1 t_trial l_trial hg cb (by omega)) km_X10_isPerson rfl k_1243 k_1244 rfl rfl (Nat.le_of_ble_eq_true rfl) (by decide) ?_
      refine mx_ifB_eq 278 dX10_command_264 (by decide) (fun c264 => ?_) (fun c264 => ?_)
      · skip
        refine mx_iconstN 0 dX10_command_278 (by decide) ?_
        exact mx_iret dX10_command_279 rfl (by decide) (⟨cm_f (cgG_6 _ _ _ _ _) (by rw [hdM_6]; exact fun q => (by first | exact c253 q.1.1 | exact c264 q.1.2)) hv h24 sS.rf, rfl⟩)
      · skip
        refine mx_iload_n (i := 1) (hi := rfl) (hl := rfl) (hd := dX10_command_267) ?_
        refine mx_bipushN 7 dX10_command_268 (by decide) ?_
        refine mx_cmpN_ne 280 dX10_command_270 (by decide) (by omega) (by omega) (fun c270 => ?_) (fun c270 => ?_)
        · skip
          
          refine mx_aload_n (i := 0) (hi := rfl) (hl := rfl) (hd := dX10_command_280) ?_
          refine mx_aload_n (i := 0) (hi := rfl) (hl := rfl) (hd := dX10_command_281) ?_
          refine mx_getR (ci := 10) (k := 6) (r := (m + 4)) dX10_command_282 k_1019 (by decide) rfl (by assumption) (by assumption) (by omega) ?_
          refine mx_iload_n (i := 2) (hi := rfl) (hl := rfl) (hd := dX10_command_285) ?_
          refine mx_iload_n (i := 3) (hi := rfl) (hl := rfl) (hd := dX10_command_286) ?_
          refine mx_bipush (v := (-9)) (by decide) dX10_command_287 ?_
          refine mx_callVi (ci := 10) (As := [.ref (m + 4), .int (nI ca), .int (nI cb), .int (-9)]) (rest := []) dX10_command_289 (mt_bestOf G I m hs0 (m + 4) x (Or.inr rfl) t_trial l_trial hv ca cb (by omega) (by omega) none (fun z9 hz9 => (nomatch hz9))) km_X10_bestOf rfl k_1355 k_1357 k_55 (by assumption) rfl rfl (Nat.le_of_ble_eq_true rfl) (by decide) (fun r9 I2 h10 => ?_)
          obtain ⟨e9, hfw, hS2⟩ := h10
          subst e9
          have heb : eb (bG x.1 (vA x) ca cb) := bR_eb hg.1 (wfP_vA hv.2.2.2) (fun s hs => prM_9 hg.1 none s hs) (by omega) (by decide)
          have hv2 : vpF (I2 (m + 4)) x := by rw [hS2.1 (m + 4) (by omega)]; exact hv
          refine mx_istoreE (i := 7) (ls' := [some (.ref m), some (.int (nI 6)), some (.int (nI ca)), some (.int (nI cb)), some (.int (nI cc)), some (.int (nI cd)), some (.int (nI ((10 * ca) + cb))), some (.int (nI (enM (bG x.1 (vA x) ca cb))))]) (hd := dX10_command_292) (hn := by decide) (hok := rfl) (hls := rfl) ?_
          refine mx_iload (i := 7) (hl := rfl) (hd := dX10_command_294) ?_
          refine mx_ldc (v := (100000000)) k_1222 dX10_command_296 ?_
          refine mx_top (y := nI 100000000) (by decide) ?_
          refine mx_cmpN_ge 342 dX10_command_298 (by decide) (en_31 heb) (by decide) (fun c298 => ?_) (fun c298 => ?_)
          · skip
            refine mx_iconstN 0 dX10_command_342 (by decide) ?_
            exact mx_iret dX10_command_343 rfl (by decide) (⟨cm_f (cgG_6 _ _ _ _ _) (by rw [hdM_6]; exact fun q => (by have q9 := (en_q1 heb _).mp q.2; first | exact q9.1 c298 | exact absurd q9.2 (by omega))) hv2 h24 hS2.s, rfl⟩)
          · skip
            refine mx_iload_n (i := 1) (hi := rfl) (hl := rfl) (hd := dX10_command_301) ?_
            refine mx_bipushN 6 dX10_command_302 (by decide) ?_
            refine mx_cmpN_ne 327 dX10_command_304 (by decide) (by omega) (by omega) (fun c304 => ?_) (fun c304 => ?_)
            · skip
              exact absurd rfl c304
            · skip
              
              refine mx_iload (i := 7) (hl := rfl) (hd := dX10_command_307) ?_
              refine mx_sipushN 1000 dX10_command_309 (by decide) ?_
              refine mx_idivN dX10_command_312 (en_31 heb) (by decide) ?_
              refine mx_bipushN 10 dX10_command_313 (by decide) ?_
              refine mx_iload (i := 4) (hl := rfl) (hd := dX10_command_315) ?_
              refine mx_imulN dX10_command_317 ?_
              refine mx_iload (i := 5) (hl := rfl) (hd := dX10_command_318) ?_
              refine mx_iaddN dX10_command_320 ?_
              refine mx_cmpN_gt 342 dX10_command_321 (by decide) (Nat.lt_of_le_of_lt (Nat.div_le_self _ _) (en_31 heb)) (by omega) (fun c321 => ?_) (fun c321 => ?_)
              · skip
                refine mx_iconstN 0 dX10_command_342 (by decide) ?_
                exact mx_iret dX10_command_343 rfl (by decide) (⟨cm_f (cgG_6 _ _ _ _ _) (by rw [hdM_6]; exact fun q => (by have q9 := (en_q1 heb _).mp q.2; first | exact q9.1 c298 | exact absurd q9.2 (by omega))) hv2 h24 hS2.s, rfl⟩)
              · skip
                refine mx_goto (tgt := 338) dX10_command_324 (by decide) ?_
                refine mx_iconstN 1 dX10_command_338 (by decide) ?_
                refine mx_goto (tgt := 343) dX10_command_339 (by decide) ?_
                exact mx_iret dX10_command_343 rfl (by decide) (⟨cm_q (cgG_6 _ _ _ _ _) (by rw [hdM_6]; exact ⟨⟨c253, c264⟩, (en_q1 heb _).mpr ⟨c298, by omega⟩⟩) hv2 h24 hS2.s, rfl⟩)
        · skip
          exact absurd c270 (by decide)
  · skip
    refine mx_tabIn (tgt := 245) dX10_command_9 (by decide) (by decide) rfl (by decide) ?_
    refine mx_aload_n (i := 0) (hi := rfl) (hl := rfl) (hd := dX10_command_245) ?_
    refine mx_getR (ci := 10) (k := 6) (r := (m + 4)) dX10_command_246 k_1019 (by decide) rfl (by assumption) (by assumption) (by omega) ?_
    refine mx_iload_n (i := 2) (hi := rfl) (hl := rfl) (hd := dX10_command_249) ?_
    refine mx_callSp (As := [.ref (m + 4), .int (nI ca)]) (rest := []) dX10_command_250 (mt_isPersonN G I (m + 4) x.1 t_trial l_trial hg ca (by omega)) km_X10_isPerson rfl k_1243 k_1244 rfl rfl (Nat.le_of_ble_eq_true rfl) (by decide) ?_
    refine mx_ifB_eq 278 dX10_command_253 (by decide) (fun c253 => ?_) (fun c253 => ?_)
    · skip
      refine mx_iconstN 0 dX10_command_278 (by decide) ?_
      exact mx_iret dX10_command_279 rfl (by decide) (⟨cm_f (cgG_7 _ _ _ _ _) (by rw [hdM_7]; exact fun q => (by first | exact c253 q.1.1.1 | exact c264 q.1.1.2 | exact c275 (Nat.le_of_eq q.1.2))) hv h24 sS.rf, rfl⟩)
    · skip
      refine mx_aload_n (i := 0) (hi := rfl) (hl := rfl) (hd := dX10_command_256) ?_
      refine mx_getR (ci := 10) (k := 6) (r := (m + 4)) dX10_command_257 k_1019 (by decide) rfl (by assumption) (by assumption) (by omega) ?_
      refine mx_iload_n (i := 3) (hi := rfl) (hl := rfl) (hd := dX10_command_260) ?_
      refine mx_callSp (As := [.ref (m + 4), .int (nI cb)]) (rest := []) dX10_command_261 (mt_isPersonN G I (m + 4) x.1 t_trial l_trial hg cb (by omega)) km_X10_isPerson rfl k_1243 k_1244 rfl rfl (Nat.le_of_ble_eq_true rfl) (by decide) ?_
      refine mx_ifB_eq 278 dX10_command_264 (by decide) (fun c264 => ?_) (fun c264 => ?_)
      · skip
        refine mx_iconstN 0 dX10_command_278 (by decide) ?_
        exact mx_iret dX10_command_279 rfl (by decide) (⟨cm_f (cgG_7 _ _ _ _ _) (by rw [hdM_7]; exact fun q => (by first | exact c253 q.1.1.1 | exact c264 q.1.1.2 | exact c275 (Nat.le_of_eq q.1.2))) hv h24 sS.rf, rfl⟩)
      · skip
        refine mx_iload_n (i := 1) (hi := rfl) (hl := rfl) (hd := dX10_command_267) ?_
        refine mx_bipushN 7 dX10_command_268 (by decide) ?_
        refine mx_cmpN_ne 280 dX10_command_270 (by decide) (by omega) (by omega) (fun c270 => ?_) (fun c270 => ?_)
        · skip
          exact absurd rfl c270
        · skip
          
          refine mx_iload (i := 4) (hl := rfl) (hd := dX10_command_273) ?_
          refine mx_ifN_le 280 dX10_command_275 (by decide) (by omega) (fun c275 => ?_) (fun c275 => ?_)
          · skip
            refine mx_aload_n (i := 0) (hi := rfl) (hl := rfl) (hd := dX10_command_280) ?_
            refine mx_aload_n (i := 0) (hi := rfl) (hl := rfl) (hd := dX10_command_281) ?_
            refine mx_getR (ci := 10) (k := 6) (r := (m + 4)) dX10_command_282 k_1019 (by decide) rfl (by assumption) (by assumption) (by omega) ?_
            refine mx_iload_n (i := 2) (hi := rfl) (hl := rfl) (hd := dX10_command_285) ?_
            refine mx_iload_n (i := 3) (hi := rfl) (hl := rfl) (hd := dX10_command_286) ?_
            refine mx_bipush (v := (-9)) (by decide) dX10_command_287 ?_
            refine mx_callVi (ci := 10) (As := [.ref (m + 4), .int (nI ca), .int (nI cb), .int (-9)]) (rest := []) dX10_command_289 (mt_bestOf G I m hs0 (m + 4) x (Or.inr rfl) t_trial l_trial hv ca cb (by omega) (by omega) none (fun z9 hz9 => (nomatch hz9))) km_X10_bestOf rfl k_1355 k_1357 k_55 (by assumption) rfl rfl (Nat.le_of_ble_eq_true rfl) (by decide) (fun r11 I2 h12 => ?_)
            obtain ⟨e9, hfw, hS2⟩ := h12
            subst e9
            have heb : eb (bG x.1 (vA x) ca cb) := bR_eb hg.1 (wfP_vA hv.2.2.2) (fun s hs => prM_9 hg.1 none s hs) (by omega) (by decide)
            have hv2 : vpF (I2 (m + 4)) x := by rw [hS2.1 (m + 4) (by omega)]; exact hv
            refine mx_istoreE (i := 7) (ls' := [some (.ref m), some (.int (nI 7)), some (.int (nI ca)), some (.int (nI cb)), some (.int (nI cc)), some (.int (nI cd)), some (.int (nI ((10 * ca) + cb))), some (.int (nI (enM (bG x.1 (vA x) ca cb))))]) (hd := dX10_command_292) (hn := by decide) (hok := rfl) (hls := rfl) ?_
            refine mx_iload (i := 7) (hl := rfl) (hd := dX10_command_294) ?_
            refine mx_ldc (v := (100000000)) k_1222 dX10_command_296 ?_
            refine mx_top (y := nI 100000000) (by decide) ?_
            refine mx_cmpN_ge 342 dX10_command_298 (by decide) (en_31 heb) (by decide) (fun c298 => ?_) (fun c298 => ?_)
            · skip
              refine mx_iconstN 0 dX10_command_342 (by decide) ?_
              exact mx_iret dX10_command_343 rfl (by decide) (⟨cm_f (cgG_7 _ _ _ _ _) (by rw [hdM_7]; exact fun q => (by have q9 := (en_q2 heb _).mp q.2; first | exact q9.1 c298 | exact absurd q9.2 (by omega))) hv2 h24 hS2.s, rfl⟩)
            · skip
              refine mx_iload_n (i := 1) (hi := rfl) (hl := rfl) (hd := dX10_command_301) ?_
              refine mx_bipushN 6 dX10_command_302 (by decide) ?_
              refine mx_cmpN_ne 327 dX10_command_304 (by decide) (by omega) (by omega) (fun c304 => ?_) (fun c304 => ?_)
              · skip
                
                refine mx_iload (i := 7) (hl := rfl) (hd := dX10_command_327) ?_
                refine mx_sipushN 1000 dX10_command_329 (by decide) ?_
                refine mx_iremN dX10_command_332 (en_31 heb) (by decide) ?_
                refine mx_iload (i := 5) (hl := rfl) (hd := dX10_command_333) ?_
                refine mx_cmpN_gt 342 dX10_command_335 (by decide) (Nat.lt_trans (Nat.mod_lt _ (by decide)) (by decide : 1000 < 2 ^ 31)) (by omega) (fun c335 => ?_) (fun c335 => ?_)
                · skip
                  refine mx_iconstN 0 dX10_command_342 (by decide) ?_
                  exact mx_iret dX10_command_343 rfl (by decide) (⟨cm_f (cgG_7 _ _ _ _ _) (by rw [hdM_7]; exact fun q => (by have q9 := (en_q2 heb _).mp q.2; first | exact q9.1 c298 | exact absurd q9.2 (by omega))) hv2 h24 hS2.s, rfl⟩)
                · skip
                  refine mx_iconstN 1 dX10_command_338 (by decide) ?_
                  refine mx_goto (tgt := 343) dX10_command_339 (by decide) ?_
                  exact mx_iret dX10_command_343 rfl (by decide) (⟨cm_q (cgG_7 _ _ _ _ _) (by rw [hdM_7]; exact ⟨⟨⟨c253, c264⟩, by omega⟩, (en_q2 heb _).mpr ⟨c298, by omega⟩⟩) hv2 h24 hS2.s, rfl⟩)
              · skip
                exact absurd c304 (by decide)
          · skip
            refine mx_iconstN 0 dX10_command_278 (by decide) ?_
            exact mx_iret dX10_command_279 rfl (by decide) (⟨cm_f (cgG_7 _ _ _ _ _) (by rw [hdM_7]; exact fun q => (by first | exact c253 q.1.1.1 | exact c264 q.1.1.2 | exact c275 (Nat.le_of_eq q.1.2))) hv h24 sS.rf, rfl⟩)
  · skip
    refine mx_tabIn (tgt := 344) dX10_command_9 (by decide) (by decide) rfl (by decide) ?_
    refine mx_iload_n (i := 3) (hi := rfl) (hl := rfl) (hd := dX10_command_344) ?_
    refine mx_iload (i := 4) (hl := rfl) (hd := dX10_command_345) ?_
    refine mx_iaddN dX10_command_347 ?_
    refine mx_ifN_ne 383 dX10_command_348 (by decide) (by omega) (fun c348 => ?_) (fun c348 => ?_)
    · skip
      refine mx_iconstN 0 dX10_command_383 (by decide) ?_
      exact mx_iret dX10_command_384 rfl (by decide) (⟨cm_f (cgG_8 _ _ _ _ _) (by rw [hdM_8]; exact fun q => (by first | exact absurd q.1.1 (by omega) | exact c359 q.1.2)) hv h24 sS.rf, rfl⟩)
    · skip
      refine mx_aload_n (i := 0) (hi := rfl) (hl := rfl) (hd := dX10_command_351) ?_
      refine mx_getR (ci := 10) (k := 6) (r := (m + 4)) dX10_command_352 k_1019 (by decide) rfl (by assumption) (by assumption) (by omega) ?_
      refine mx_iload_n (i := 2) (hi := rfl) (hl := rfl) (hd := dX10_command_355) ?_
      refine mx_callSp (As := [.ref (m + 4), .int (nI ca)]) (rest := []) dX10_command_356 (mt_isPersonN G I (m + 4) x.1 t_trial l_trial hg ca (by omega)) km_X10_isPerson rfl k_1243 k_1244 rfl rfl (Nat.le_of_ble_eq_true rfl) (by decide) ?_
      refine mx_ifB_eq 383 dX10_command_359 (by decide) (fun c359 => ?_) (fun c359 => ?_)
      · skip
        refine mx_iconstN 0 dX10_command_383 (by decide) ?_
        exact mx_iret dX10_command_384 rfl (by decide) (⟨cm_f (cgG_8 _ _ _ _ _) (by rw [hdM_8]; exact fun q => (by first | exact absurd q.1.1 (by omega) | exact c359 q.1.2)) hv h24 sS.rf, rfl⟩)
      · skip
        refine mx_aload_n (i := 0) (hi := rfl) (hl := rfl) (hd := dX10_command_362) ?_
        refine mx_aload_n (i := 0) (hi := rfl) (hl := rfl) (hd := dX10_command_363) ?_
        refine mx_getR (ci := 10) (k := 6) (r := (m + 4)) dX10_command_364 k_1019 (by decide) rfl (by assumption) (by assumption) (by omega) ?_
        refine mx_iload_n (i := 2) (hi := rfl) (hl := rfl) (hd := dX10_command_367) ?_
        refine mx_callVi (ci := 10) (As := [.ref (m + 4), .int (nI ca)]) (rest := []) dX10_command_368 (mt_reached G I m hs0 (m + 4) x (Or.inr rfl) t_trial l_trial hv ca (by omega)) km_X10_reached rfl k_1246 k_1248 k_47 (by assumption) rfl rfl (Nat.le_of_ble_eq_true rfl) (by decide) (fun r13 I2 h14 => ?_)
        obtain ⟨e9, hS2⟩ := h14
        subst e9
        have hv2 : vpF (I2 (m + 4)) x := by rw [hS2.1 (m + 4) (by omega)]; exact hv
        have hrc31 : rcM x.1 (vA x) (prM x.1 none) ca (gP x.1) < 2 ^ 31 := Nat.lt_of_lt_of_le (rcM_lt _ _ _ _ _) (Nat.pow_le_pow_right (by decide) (by omega))
        refine mx_callSp (As := [.int (nI (rcM x.1 (vA x) (prM x.1 none) ca (gP x.1)))]) (rest := []) dX10_command_371 (mt_ones G I2 (rcM x.1 (vA x) (prM x.1 none) ca (gP x.1)) hrc31) km_X10_ones rfl k_1379 k_1380 rfl rfl (Nat.le_of_ble_eq_true rfl) (by decide) ?_
        refine mx_iload (i := 5) (hl := rfl) (hd := dX10_command_374) ?_
        refine mx_cmpN_lt 383 dX10_command_376 (by decide) (Nat.lt_of_le_of_lt (onM_le _ _) (by decide)) (by omega) (fun c376 => ?_) (fun c376 => ?_)
        · skip
          refine mx_iconstN 0 dX10_command_383 (by decide) ?_
          exact mx_iret dX10_command_384 rfl (by decide) (⟨cm_f (cgG_8 _ _ _ _ _) (by rw [hdM_8]; exact fun q => absurd q.2 (by omega)) hv2 h24 hS2.s, rfl⟩)
        · skip
          refine mx_iconstN 1 dX10_command_379 (by decide) ?_
          refine mx_goto (tgt := 384) dX10_command_380 (by decide) ?_
          exact mx_iret dX10_command_384 rfl (by decide) (⟨cm_q (cgG_8 _ _ _ _ _) (by rw [hdM_8]; exact ⟨⟨by omega, c359⟩, by omega⟩) hv2 h24 hS2.s, rfl⟩)
  · skip
    refine mx_tabIn (tgt := 385) dX10_command_9 (by decide) (by decide) rfl (by decide) ?_
    refine mx_aload_n (i := 0) (hi := rfl) (hl := rfl) (hd := dX10_command_385) ?_
    refine mx_getR (ci := 10) (k := 6) (r := (m + 4)) dX10_command_386 k_1019 (by decide) rfl (by assumption) (by assumption) (by omega) ?_
    refine mx_iload (i := 6) (hl := rfl) (hd := dX10_command_389) ?_
    refine mx_callSp (As := [.ref (m + 4), .int (nI ((10 * ca) + cb))]) (rest := []) dX10_command_391 (mt_isStepN G I (m + 4) x.1 t_trial l_trial hg (10 * ca + cb) (by omega)) km_X10_isStep rfl k_1235 k_1236 rfl rfl (Nat.le_of_ble_eq_true rfl) (by decide) ?_
    refine mx_ifB_eq 421 dX10_command_394 (by decide) (fun c394 => ?_) (fun c394 => ?_)
    · skip
      refine mx_iconstN 0 dX10_command_421 (by decide) ?_
      exact mx_iret dX10_command_422 rfl (by decide) (⟨cm_f (cgG_9 _ _ _ _ _) (by rw [hdM_9]; exact fun q => (by first | exact c394 q.1.1.1 | exact c406 q.1.1.2 | exact c418 q.1.2)) hv h24 sS.rf, rfl⟩)
    · skip
      refine mx_aload_n (i := 0) (hi := rfl) (hl := rfl) (hd := dX10_command_397) ?_
      refine mx_getR (ci := 10) (k := 6) (r := (m + 4)) dX10_command_398 k_1019 (by decide) rfl (by assumption) (by assumption) (by omega) ?_
      refine mx_iload (i := 4) (hl := rfl) (hd := dX10_command_401) ?_
      refine mx_callSp (As := [.ref (m + 4), .int (nI cc)]) (rest := []) dX10_command_403 (mt_isPersonN G I (m + 4) x.1 t_trial l_trial hg cc (by omega)) km_X10_isPerson rfl k_1243 k_1244 rfl rfl (Nat.le_of_ble_eq_true rfl) (by decide) ?_
      refine mx_ifB_eq 421 dX10_command_406 (by decide) (fun c406 => ?_) (fun c406 => ?_)
      · skip
        refine mx_iconstN 0 dX10_command_421 (by decide) ?_
        exact mx_iret dX10_command_422 rfl (by decide) (⟨cm_f (cgG_9 _ _ _ _ _) (by rw [hdM_9]; exact fun q => (by first | exact c394 q.1.1.1 | exact c406 q.1.1.2 | exact c418 q.1.2)) hv h24 sS.rf, rfl⟩)
      · skip
        refine mx_aload_n (i := 0) (hi := rfl) (hl := rfl) (hd := dX10_command_409) ?_
        refine mx_getR (ci := 10) (k := 6) (r := (m + 4)) dX10_command_410 k_1019 (by decide) rfl (by assumption) (by assumption) (by omega) ?_
        refine mx_iload (i := 5) (hl := rfl) (hd := dX10_command_413) ?_
        refine mx_callSp (As := [.ref (m + 4), .int (nI cd)]) (rest := []) dX10_command_415 (mt_isPersonN G I (m + 4) x.1 t_trial l_trial hg cd (by omega)) km_X10_isPerson rfl k_1243 k_1244 rfl rfl (Nat.le_of_ble_eq_true rfl) (by decide) ?_
        refine mx_ifB_ne 423 dX10_command_418 (by decide) (fun c418 => ?_) (fun c418 => ?_)
        · skip
          refine mx_aload_n (i := 0) (hi := rfl) (hl := rfl) (hd := dX10_command_423) ?_
          refine mx_aload_n (i := 0) (hi := rfl) (hl := rfl) (hd := dX10_command_424) ?_
          refine mx_getR (ci := 10) (k := 6) (r := (m + 4)) dX10_command_425 k_1019 (by decide) rfl (by assumption) (by assumption) (by omega) ?_
          refine mx_iload (i := 4) (hl := rfl) (hd := dX10_command_428) ?_
          refine mx_iload (i := 5) (hl := rfl) (hd := dX10_command_430) ?_
          refine mx_callVi (ci := 10) (As := [.ref (m + 4), .int (nI cc), .int (nI cd)]) (rest := []) dX10_command_432 (mt_neededIn G I m hs0 (m + 4) x (Or.inr rfl) t_trial l_trial hv cc cd (by omega) (by omega)) km_X10_neededIn rfl k_1351 k_1353 k_54 (by assumption) rfl rfl (Nat.le_of_ble_eq_true rfl) (by decide) (fun r15 I2 h16 => ?_)
          obtain ⟨e9, hS2⟩ := h16
          subst e9
          have hv2 : vpF (I2 (m + 4)) x := by rw [hS2.1 (m + 4) (by omega)]; exact hv
          have hnd31 : ndS x.1 (vA x) cc cd < 2 ^ 31 := ndS_31 _ _ _ _ h24
          refine mx_iload (i := 6) (hl := rfl) (hd := dX10_command_435) ?_
          refine mx_ishrN dX10_command_437 (hnd31) (by omega) ?_
          refine mx_iconstN 1 dX10_command_438 (by decide) ?_
          refine mx_iandN dX10_command_439 ?_
          refine mx_top (mx_bit _ _) ?_
          refine mx_iconstN 1 dX10_command_440 (by decide) ?_
          refine mx_icmp_ne (tgt := 448) dX10_command_441 (by decide) (fun c441 => ?_) (fun c441 => ?_)
          · skip
            have d441 : ¬ (ndS x.1 (vA x) cc cd).testBit (10 * ca + cb) = true := fun q => c441 (mx_bT q).symm
            refine mx_iconstN 0 dX10_command_448 (by decide) ?_
            exact mx_iret dX10_command_449 rfl (by decide) (⟨cm_f (cgG_9 _ _ _ _ _) (by rw [hdM_9]; exact fun q => d441 q.2) hv2 h24 hS2.s, rfl⟩)
          · skip
            have d441 := mx_b1 c441
            refine mx_iconstN 1 dX10_command_444 (by decide) ?_
            refine mx_goto (tgt := 449) dX10_command_445 (by decide) ?_
            exact mx_iret dX10_command_449 rfl (by decide) (⟨cm_q (cgG_9 _ _ _ _ _) (by rw [hdM_9]; exact ⟨⟨⟨c394, c406⟩, c418⟩, d441⟩) hv2 h24 hS2.s, rfl⟩)
        · skip
          refine mx_iconstN 0 dX10_command_421 (by decide) ?_
          exact mx_iret dX10_command_422 rfl (by decide) (⟨cm_f (cgG_9 _ _ _ _ _) (by rw [hdM_9]; exact fun q => (by first | exact c394 q.1.1.1 | exact c406 q.1.1.2 | exact c418 q.1.2)) hv h24 sS.rf, rfl⟩)

def fl_runScript (n : Int32) (sc : Int64) : Nat := if ¬ (1 ≤ n.toInt ∧ n.toInt ≤ 3) then 2 else if ¬ (0 ≤ sc.toInt ∧ sc.toInt < ((100000 ^ n.toInt.toNat : Nat) : Int)) then 2 else 0
/-- where a script stops, from its command k on, over a graph -/
noncomputable def rsF (A : Pa) (sc n : Nat) : Nat → Nat → Gr → Int32
  | 0, _, _ => -9
  | f + 1, k, v => if cmB v A (sc / 100000 ^ (n - (k + 1)) % 100000 / 10000) (sc / 100000 ^ (n - (k + 1)) % 100000 / 1000 % 10) (sc / 100000 ^ (n - (k + 1)) % 100000 / 100 % 10) (sc / 100000 ^ (n - (k + 1)) % 100000 / 10 % 10) (sc / 100000 ^ (n - (k + 1)) % 100000 % 10) = true then rsF A sc n f (k + 1) (cmV v (sc / 100000 ^ (n - (k + 1)) % 100000 / 10000) (sc / 100000 ^ (n - (k + 1)) % 100000 / 1000 % 10) (sc / 100000 ^ (n - (k + 1)) % 100000 / 100 % 10) (sc / 100000 ^ (n - (k + 1)) % 100000 / 10 % 10) (sc / 100000 ^ (n - (k + 1)) % 100000 % 10)) else nI k
theorem rsF_g {A : Pa} {sc n f k gr : Nat} {v : Gr} (h : sc / 100000 ^ (n - (k + 1)) % 100000 = gr) : rsF A sc n (f + 1) k v = if cmB v A (gr / 10000) (gr / 1000 % 10) (gr / 100 % 10) (gr / 10 % 10) (gr % 10) = true then rsF A sc n f (k + 1) (cmV v (gr / 10000) (gr / 1000 % 10) (gr / 100 % 10) (gr / 10 % 10) (gr % 10)) else nI k := by
  subst h
  rfl
noncomputable def am_runScript (z : Zs) (n sc : Nat) : Int32 := rsF (vA (zX z)) sc n n 0 (zG z)
theorem fl_runScript_0 {n : Int32} {sc : Int64} (h : fl_runScript n sc - 1 = 0) : (1 ≤ n.toInt ∧ n.toInt ≤ 3) ∧ (0 ≤ sc.toInt ∧ sc.toInt < ((100000 ^ n.toInt.toNat : Nat) : Int)) := by
  unfold fl_runScript at h
  split at h
  · cases h
  · next c2 =>
    split at h
    · cases h
    · next c3 => exact ⟨Classical.not_not.mp c2, Classical.not_not.mp c3⟩
theorem fl_runScript_le (n : Int32) (sc : Int64) : fl_runScript n sc - 1 ≤ 3 := by
  unfold fl_runScript
  split
  · decide
  · split <;> decide
theorem q100k {n : Nat} (h : n ≤ 3) : 100000 ^ n < 2 ^ 63 := Nat.lt_of_le_of_lt (Nat.pow_le_pow_right (by decide) h) (by decide)
theorem q100s {n k : Nat} (h : k < n) : 100000 ^ (n - k) / 100000 = 100000 ^ (n - (k + 1)) := by
  rw [show n - k = (n - (k + 1)) + 1 by omega, Nat.pow_succ, Nat.mul_div_cancel _ (by decide)]
theorem q100z {k : Nat} (h : k ≤ 3) : ¬ lN (100000 ^ k) = 0 := fun q => by
  have h2 := (pk_lEQ (a := 100000 ^ k) (b := 0) (q100k h) (by decide)).mp q
  have h3 : 0 < 100000 ^ k := Nat.pow_pos (by decide)
  omega

set_option maxHeartbeats 4000000 in
set_option maxRecDepth 100000 in
theorem mt_runScript (G : mx_G) (I : mx_I) (m : Nat) (z : Zs) (hW : mW G I m z) (n : Int32) (sc : Int64) : mx_CTi yX10_runScript mX10_runScript 8 [.ref m, .int n, .long sc] G I (fun rv I1 => I1 m 0 = nI (fl_runScript n sc - 1) ∧ mx_fr I I1 m (m + 23) ∧ ((fl_runScript n sc - 1) = 0 → rv = some (.int (am_runScript z n.toInt.toNat sc.toInt.toNat)) ∧ mW G I1 m (z)) ∧ (¬ (fl_runScript n sc - 1) = 0 → (∃ w9, rv = some (.int w9)) ∧ mW G I1 m z)) := by
  refine mx_start (k := 4) (by decide) rfl rfl (fun h => nomatch h) (Nat.le_of_ble_eq_true rfl) ?_
  show mx_V mX10_runScript mx_S0 8 0 0 0 [some (.ref m), some (.int n), some (.long sc), none, none, none, none, none] [] G I (fun rv Gz Iz => (fun rv I1 => I1 m 0 = nI (fl_runScript n sc - 1) ∧ mx_fr I I1 m (m + 23) ∧ ((fl_runScript n sc - 1) = 0 → rv = some (.int (am_runScript z n.toInt.toNat sc.toInt.toNat)) ∧ mW G I1 m (z)) ∧ (¬ (fl_runScript n sc - 1) = 0 → (∃ w9, rv = some (.int w9)) ∧ mW G I1 m z)) rv Iz ∧ Gz = G) (fun _ _ _ => False)
  have hs0 : oMD G m := hW.1
  have hs1 := hs0
  have hW9 := hW
  obtain ⟨tgm, -⟩ := hs1
  obtain ⟨-, hsz, ⟨hn110, h2, htx, htc⟩, ⟨hvp, hN24⟩, ⟨hc14, h8, hdi⟩, hke⟩ := hW9
  have hN24 : gN (zG z) ≤ 24 := hN24
  have hgw : wfG (zG z) := hvp.1.1
  have hP8 : gP (zG z) ≤ 8 := hgw.1
  have hgb : ∀ s, s < gN (zG z) → gF (zG z) s < 8 ∧ gK (zG z) s < 4 ∧ gT (zG z) s < 8 ∧ 1 ≤ gC (zG z) s ∧ gC (zG z) s ≤ 9 := hgw.2.2
  have hn40 := hvp.2.2.2.1
  refine mx_lconst (v := 1) (by decide) dX10_runScript_0 ?_
  refine mx_topl (y := lN (100000 ^ 0)) (rfl) ?_
  refine mx_lstoreE (i := 4) (ls' := [some (.ref m), some (.int n), some (.long sc), none, some (.long (lN (100000 ^ 0))), none, none, none]) (hd := dX10_runScript_1) (hn := by decide) (hok := rfl) (hls := rfl) ?_
  have J32 : ∀ (k : Nat), (k ≤ 3) → (1 ≤ n.toInt ∧ n.toInt ≤ 3 → n.toInt = (k : Int)) → mx_V mX10_runScript mx_S0 8 0 0 32 [some (.ref m), some (.int n), some (.long sc), none, some (.long (lN (100000 ^ k))), none, some (.int (nI k)), none] [] G I (fun rv Gz Iz => (fun rv I1 => I1 m 0 = nI (fl_runScript n sc - 1) ∧ mx_fr I I1 m (m + 23) ∧ ((fl_runScript n sc - 1) = 0 → rv = some (.int (am_runScript z n.toInt.toNat sc.toInt.toNat)) ∧ mW G I1 m (z)) ∧ (¬ (fl_runScript n sc - 1) = 0 → (∃ w9, rv = some (.int w9)) ∧ mW G I1 m z)) rv Iz ∧ Gz = G) (fun _ _ _ => False) := by
    intro k hk h32
    have J62 : ∀ (_ : Unit), mx_V mX10_runScript mx_S0 8 0 0 62 [some (.ref m), some (.int n), some (.long sc), none, some (.long (lN (100000 ^ k))), none, some (.int (nI k)), none] [.int (nI (fl_runScript n sc - 1)), .ref m] G I (fun rv Gz Iz => (fun rv I1 => I1 m 0 = nI (fl_runScript n sc - 1) ∧ mx_fr I I1 m (m + 23) ∧ ((fl_runScript n sc - 1) = 0 → rv = some (.int (am_runScript z n.toInt.toNat sc.toInt.toNat)) ∧ mW G I1 m (z)) ∧ (¬ (fl_runScript n sc - 1) = 0 → (∃ w9, rv = some (.int w9)) ∧ mW G I1 m z)) rv Iz ∧ Gz = G) (fun _ _ _ => False) := by
      intro _ 
      refine mx_callVi (ci := 10) (As := [.int (nI (fl_runScript n sc - 1))]) (rest := []) dX10_runScript_62 (mt_refused G I m hs0 (fl_runScript n sc - 1) (Nat.lt_of_le_of_lt (fl_runScript_le _ _) (by decide))) km_X10_refused rfl k_1122 k_1124 k_29 (by assumption) rfl rfl (Nat.le_of_ble_eq_true rfl) (by decide) (fun r1 Ir h2 => ?_)
      obtain ⟨e9, er⟩ := h2
      subst e9
      have hr0 : Ir m 0 = nI (fl_runScript n sc - 1) := by rw [er, mx_u_at, if_pos ⟨rfl, rfl⟩]
      have hrf : mx_fr I Ir m (m + 23) := by rw [er]; exact (mx_fr.rf _ _ _).u (by omega)
      have hW1 : mW G Ir m z := hW.k (fun b k q => by rw [er, mx_u_at, if_neg (by omega)])
      clear er
      refine mx_ifB_eq 70 dX10_runScript_65 (by decide) (fun c65 => ?_) (fun c65 => ?_)
      · skip
        have hm0 : fl_runScript n sc - 1 = 0 := by omega
        obtain ⟨k2, k3⟩ := fl_runScript_0 hm0
        clear hsz h2 htx htc hvp hdi hke h8
        have hs0 : oMD G m := hW1.1
        have hs1 := hs0
        have hW9 := hW1
        obtain ⟨tgm, -, -, ⟨r_now, t_now, l_now⟩, ⟨r_trial, t_trial, l_trial⟩, -⟩ := hs1
        obtain ⟨-, hsz, ⟨hn110, h2, htx, htc⟩, ⟨hvp, hN24⟩, ⟨hc14, h8, hdi⟩, hke⟩ := hW9
        have hN24 : gN (zG z) ≤ 24 := hN24
        have hgw : wfG (zG z) := hvp.1.1
        have hP8 : gP (zG z) ≤ 8 := hgw.1
        have hgb : ∀ s, s < gN (zG z) → gF (zG z) s < 8 ∧ gK (zG z) s < 4 ∧ gT (zG z) s < 8 ∧ 1 ≤ gC (zG z) s ∧ gC (zG z) s ≤ 9 := hgw.2.2
        have hn40 := hvp.2.2.2.1
        have hnne : n = nI n.toInt.toNat := (mx_nn (by omega)).symm
        have hnnb : 1 ≤ n.toInt.toNat ∧ n.toInt.toNat ≤ 3 := by omega
        have hnn31 : n.toInt.toNat < 2 ^ 31 := tn31 _
        generalize n.toInt.toNat = nn at hnne hnnb hnn31 ⊢
        subst hnne
        rw [nI_tt hnn31] at k3
        have hnn9 : (nI nn).toInt = (nn : Int) := nI_toInt hnn31
        have hk9 : nn = k := by have := h32 ⟨by omega, by omega⟩; omega
        subst hk9
        have hsne : sc = lN sc.toInt.toNat := lN_nn (k3.1)
        have hsnb : sc.toInt.toNat < 100000 ^ nn := tn_lt k3
        generalize sc.toInt.toNat = sn at hsne hsnb ⊢
        subst hsne
        have hsn63 : sn < 2 ^ 63 := Nat.lt_trans hsnb (q100k (by omega))
        clear h32 hk
        refine mx_aload_n (i := 0) (hi := rfl) (hl := rfl) (hd := dX10_runScript_70) ?_
        refine mx_getR (ci := 10) (k := 5) (r := (m + 3)) dX10_runScript_71 k_1018 (by decide) rfl (by assumption) (by assumption) (by omega) ?_
        refine mx_iconstN 0 dX10_runScript_74 (by decide) ?_
        refine mx_aload_n (i := 0) (hi := rfl) (hl := rfl) (hd := dX10_runScript_75) ?_
        refine mx_getR (ci := 10) (k := 6) (r := (m + 4)) dX10_runScript_76 k_1019 (by decide) rfl (by assumption) (by assumption) (by omega) ?_
        refine mx_iconstN 0 dX10_runScript_79 (by decide) ?_
        refine mx_callSi (As := [.ref (m + 3), .int (nI 0), .ref (m + 4), .int (nI 0)]) (rest := []) dX10_runScript_80 (mt_copyGraph G Ir (m + 3) 0 (m + 4) 0 t_now t_trial (by omega) (by omega) (by omega) (by omega) (by omega)) km_X10_copyGraph rfl k_1190 k_1191 rfl rfl (Nat.le_of_ble_eq_true rfl) (by decide) (fun r3 I2 h4 => ?_)
        obtain ⟨e9, q1, q2⟩ := h4
        subst e9
        have hS0 : sS Ir I2 m := ⟨fun b hb => funext fun k => q2 b k (by omega), fun j hj => q2 m j (by omega)⟩
        have hvt0 : vpF (I2 (m + 4)) (zX z) := hvp.c (fun k hk => by have h9 := q1 k hk; rw [Nat.zero_add] at h9; exact h9)
        have hgv2 : gaF (I2 (m + 3)) (zG z) := hvp.1.c (by omega) (fun k _ => by rw [hS0.1 (m + 3) (by omega)])
        have L86 : ∀ (fq : Nat) (k : Nat) (v : Gr) (I1 : mx_I), nn - k < fq → (k ≤ nn) → (vpF (I1 (m + 4)) (v, (zX z).2)) → (gN v ≤ 24) → (sS Ir I1 m) → (rsF (vA (zX z)) sn nn nn 0 (zG z) = rsF (vA (zX z)) sn nn (nn - k) k v) → mx_V mX10_runScript mx_S0 8 0 0 86 [some (.ref m), some (.int (nI nn)), some (.long (lN sn)), none, some (.long (lN (100000 ^ (nn - k)))), none, some (.int (nI k)), none] [] G I1 (fun rv Gz Iz => (fun rv I1 => I1 m 0 = nI (fl_runScript (nI nn) (lN sn) - 1) ∧ mx_fr I I1 m (m + 23) ∧ ((fl_runScript (nI nn) (lN sn) - 1) = 0 → rv = some (.int (am_runScript z nn sn)) ∧ mW G I1 m (z)) ∧ (¬ (fl_runScript (nI nn) (lN sn) - 1) = 0 → (∃ w9, rv = some (.int w9)) ∧ mW G I1 m z)) rv Iz ∧ Gz = G) (fun _ _ _ => False) := by
          intro fq
          induction fq with
          | zero => intro k v I1 hfu; exact absurd hfu (Nat.not_lt_zero _)
          | succ fq ih =>
            intro k v I1 hfu hk hv1 hv24 hS1 hx
            refine mx_iload (i := 6) (hl := rfl) (hd := dX10_runScript_86) ?_
            refine mx_iload_n (i := 1) (hi := rfl) (hl := rfl) (hd := dX10_runScript_88) ?_
            refine mx_cmpN_ge 163 dX10_runScript_89 (by decide) (by omega) (by omega) (fun c89 => ?_) (fun c89 => ?_)
            · skip
              refine mx_bipush (v := (-9)) (by decide) dX10_runScript_163 ?_
              exact mx_iret dX10_runScript_165 rfl rfl (⟨⟨(hS1.2 0 (by omega)).trans hr0, mt_fr hrf hS1.fr, fun _ => ⟨congrArg (fun x => some (Value.int x)) (show -9 = am_runScript z nn sn by unfold am_runScript; rw [hx, show nn - k = 0 by omega]; rfl), hW1.sS hS1⟩, fun z9 => absurd hm0 z9⟩, rfl⟩)
            · skip
              obtain ⟨gr, hgr⟩ : ∃ gr, sn / 100000 ^ (nn - (k + 1)) % 100000 = gr := ⟨_, rfl⟩
              have hgr9 : gr < 100000 := by rw [← hgr]; exact Nat.mod_lt _ (by decide)
              have hst := rsF_g (A := vA (zX z)) (f := nn - (k + 1)) (v := v) hgr
              rw [show nn - (k + 1) + 1 = nn - k by omega] at hst
              refine mx_lload (i := 4) (hl := rfl) (hd := dX10_runScript_92) ?_
              refine mx_ldc2 (v := (100000)) k_1374 dX10_runScript_94 ?_
              refine mx_topl (y := lN 100000) (rfl) ?_
              refine mx_ldiv (by decide) dX10_runScript_97 ?_
              refine mx_topl (y := lN (100000 ^ (nn - (k + 1)))) (by rw [pk_lDiv (q100k (by omega)) (by decide) (by decide), q100s (by omega)]) ?_
              refine mx_lstoreE (i := 4) (ls' := [some (.ref m), some (.int (nI nn)), some (.long (lN sn)), none, some (.long (lN (100000 ^ (nn - (k + 1))))), none, some (.int (nI k)), none]) (hd := dX10_runScript_98) (hn := by decide) (hok := rfl) (hls := rfl) ?_
              refine mx_lload_n (i := 2) (hi := rfl) (hl := rfl) (hd := dX10_runScript_100) ?_
              refine mx_lload (i := 4) (hl := rfl) (hd := dX10_runScript_101) ?_
              refine mx_ldiv (q100z (by omega)) dX10_runScript_103 ?_
              refine mx_topl (y := lN (sn / 100000 ^ (nn - (k + 1)))) (pk_lDiv hsn63 (Nat.pow_pos (by decide)) (q100k (by omega))) ?_
              refine mx_ldc2 (v := (100000)) k_1374 dX10_runScript_104 ?_
              refine mx_topl (y := lN 100000) (rfl) ?_
              refine mx_lrem (by decide) dX10_runScript_107 ?_
              refine mx_topl (y := lN (sn / 100000 ^ (nn - (k + 1)) % 100000)) (pk_lRem (Nat.lt_of_le_of_lt (Nat.div_le_self _ _) hsn63) (by decide) (by decide)) ?_
              refine mx_l2i (hv := rfl) (hd := dX10_runScript_108) ?_
              refine mx_top (y := nI gr) ((lN_i _).trans (congrArg nI hgr)) ?_
              refine mx_istoreE (i := 7) (ls' := [some (.ref m), some (.int (nI nn)), some (.long (lN sn)), none, some (.long (lN (100000 ^ (nn - (k + 1))))), none, some (.int (nI k)), some (.int (nI gr))]) (hd := dX10_runScript_109) (hn := by decide) (hok := rfl) (hls := rfl) ?_
              refine mx_aload_n (i := 0) (hi := rfl) (hl := rfl) (hd := dX10_runScript_111) ?_
              refine mx_iload (i := 7) (hl := rfl) (hd := dX10_runScript_112) ?_
              refine mx_sipushN 10000 dX10_runScript_114 (by decide) ?_
              refine mx_idivN dX10_runScript_117 (by omega) (by decide) ?_
              refine mx_iload (i := 7) (hl := rfl) (hd := dX10_runScript_118) ?_
              refine mx_sipushN 1000 dX10_runScript_120 (by decide) ?_
              refine mx_idivN dX10_runScript_123 (by omega) (by decide) ?_
              refine mx_bipushN 10 dX10_runScript_124 (by decide) ?_
              refine mx_iremN dX10_runScript_126 (by omega) (by decide) ?_
              refine mx_iload (i := 7) (hl := rfl) (hd := dX10_runScript_127) ?_
              refine mx_bipushN 100 dX10_runScript_129 (by decide) ?_
              refine mx_idivN dX10_runScript_131 (by omega) (by decide) ?_
              refine mx_bipushN 10 dX10_runScript_132 (by decide) ?_
              refine mx_iremN dX10_runScript_134 (by omega) (by decide) ?_
              refine mx_iload (i := 7) (hl := rfl) (hd := dX10_runScript_135) ?_
              refine mx_bipushN 10 dX10_runScript_137 (by decide) ?_
              refine mx_idivN dX10_runScript_139 (by omega) (by decide) ?_
              refine mx_bipushN 10 dX10_runScript_140 (by decide) ?_
              refine mx_iremN dX10_runScript_142 (by omega) (by decide) ?_
              refine mx_iload (i := 7) (hl := rfl) (hd := dX10_runScript_143) ?_
              refine mx_bipushN 10 dX10_runScript_145 (by decide) ?_
              refine mx_iremN dX10_runScript_147 (by omega) (by decide) ?_
              refine mx_callVi (ci := 10) (As := [.int (nI (gr / 10000)), .int (nI ((gr / 1000) % 10)), .int (nI ((gr / 100) % 10)), .int (nI ((gr / 10) % 10)), .int (nI (gr % 10))]) (rest := []) dX10_runScript_148 (mt_command G I1 m hs0 (v, (zX z).2) hsz hv1 hv24 (gr / 10000) (gr / 1000 % 10) (gr / 100 % 10) (gr / 10 % 10) (gr % 10) (by omega) (by omega) (by omega) (by omega) (by omega)) km_X10_command rfl k_1375 k_1377 k_56 (by assumption) rfl rfl (Nat.le_of_ble_eq_true rfl) (by decide) (fun r5 I3 h6 => ?_)
              obtain ⟨e9, g1, g2, g3⟩ := h6
              subst e9
              refine mx_ifB_ne 157 dX10_runScript_151 (by decide) (fun c151 => ?_) (fun c151 => ?_)
              · skip
                have c151 : cmB v (vA (zX z)) (gr / 10000) (gr / 1000 % 10) (gr / 100 % 10) (gr / 10 % 10) (gr % 10) = true := c151
                refine mx_iincE (i := 6) (ls' := [some (.ref m), some (.int (nI nn)), some (.long (lN sn)), none, some (.long (lN (100000 ^ (nn - (k + 1))))), none, some (.int (nI (k + 1))), some (.int (nI gr))]) 1 dX10_runScript_157 rfl (by decide) (by decide) rfl rfl ?_
                refine mx_goto (tgt := 86) dX10_runScript_160 (by decide) ?_
                refine mx_leS (ls' := [some (.ref m), some (.int (nI nn)), some (.long (lN sn)), none, some (.long (lN (100000 ^ (nn - (k + 1))))), none, some (.int (nI (k + 1))), none]) ⟨rfl, rfl, rfl, rfl, rfl, trivial⟩ ?_
                exact ih (k + 1) (cmV v (gr / 10000) (gr / 1000 % 10) (gr / 100 % 10) (gr / 10 % 10) (gr % 10)) _ (by omega) (by omega) g1 g2 (hS1.tr g3) (by rw [hx, hst, if_pos c151])
              · skip
                have c151 : ¬ cmB v (vA (zX z)) (gr / 10000) (gr / 1000 % 10) (gr / 100 % 10) (gr / 10 % 10) (gr % 10) = true := c151
                refine mx_iload (i := 6) (hl := rfl) (hd := dX10_runScript_154) ?_
                exact mx_iret dX10_runScript_156 rfl rfl (⟨⟨((hS1.tr g3).2 0 (by omega)).trans hr0, mt_fr hrf (hS1.tr g3).fr, fun _ => ⟨congrArg (fun x => some (Value.int x)) (show nI k = am_runScript z nn sn by unfold am_runScript; rw [hx, hst, if_neg c151]), hW1.sS (hS1.tr g3)⟩, fun z9 => absurd hm0 z9⟩, rfl⟩)
        refine mx_iconstN 0 dX10_runScript_83 (by decide) ?_
        refine mx_istoreE (i := 6) (ls' := [some (.ref m), some (.int (nI nn)), some (.long (lN sn)), none, some (.long (lN (100000 ^ nn))), none, some (.int (nI 0)), none]) (hd := dX10_runScript_84) (hn := by decide) (hok := rfl) (hls := rfl) ?_
        exact L86 _ 0 (zG z) _ (Nat.lt_succ_self _) (Nat.zero_le _) hvt0 hN24 hS0 (by rw [Nat.sub_zero])
      · skip
        refine mx_iconstN 0 dX10_runScript_68 (by decide) ?_
        exact mx_iret dX10_runScript_69 rfl rfl (⟨⟨hr0, hrf, fun z9 => absurd z9 (by omega), fun _ => ⟨⟨_, rfl⟩, hW1⟩⟩, rfl⟩)
    refine mx_aload_n (i := 0) (hi := rfl) (hl := rfl) (hd := dX10_runScript_32) ?_
    refine mx_iload_n (i := 1) (hi := rfl) (hl := rfl) (hd := dX10_runScript_33) ?_
    refine mx_i2l (hv := rfl) (hd := dX10_runScript_34) ?_
    refine mx_lconst (v := 1) (by decide) dX10_runScript_35 ?_
    refine mx_ldc2 (v := (3)) k_1238 dX10_runScript_36 ?_
    refine mx_callSp (As := [.long n.toInt64, .long (1 : Int64), .long (3)]) (rest := [.ref m]) dX10_runScript_39 (mt_in G I (n.toInt64) (1 : Int64) (3 : Int64)) km_X10_in rfl k_1119 k_1120 rfl rfl (Nat.le_of_ble_eq_true rfl) (by decide) ?_
    refine mx_top (y := mx_b (decide (1 ≤ n.toInt ∧ n.toInt ≤ 3))) (congrArg mx_b (decide_eq_decide.mpr ((in_l (x := 1) (y := 3) rfl rfl).trans (by omega)))) ?_
    refine mx_ifB_eq 61 dX10_runScript_42 (by decide) (fun c42 => ?_) (fun c42 => ?_)
    · skip
      refine mx_iconstN 1 dX10_runScript_61 (by decide) ?_
      refine mx_top (y := nI (fl_runScript n sc - 1)) (congrArg nI (show 1 = fl_runScript n sc - 1 by unfold fl_runScript; rw [if_pos c42])) ?_
      exact J62 ()
    · skip
      refine mx_lload_n (i := 2) (hi := rfl) (hl := rfl) (hd := dX10_runScript_45) ?_
      refine mx_lconst (v := 0) (by decide) dX10_runScript_46 ?_
      refine mx_lload (i := 4) (hl := rfl) (hd := dX10_runScript_47) ?_
      refine mx_lconst (v := 1) (by decide) dX10_runScript_49 ?_
      refine mx_lsub dX10_runScript_50 ?_
      refine mx_topl (y := lN (100000 ^ k - 1)) (lN_pred (Nat.pow_pos (by decide))) ?_
      refine mx_callSp (As := [.long sc, .long (0 : Int64), .long (lN (100000 ^ k - 1))]) (rest := [.ref m]) dX10_runScript_51 (mt_inR G I sc (100000 ^ k) (Nat.pow_pos (by decide)) (q100k hk)) km_X10_in rfl k_1119 k_1120 rfl rfl (Nat.le_of_ble_eq_true rfl) (by decide) ?_
      refine mx_ifB_eq 61 dX10_runScript_54 (by decide) (fun c54 => ?_) (fun c54 => ?_)
      · skip
        refine mx_iconstN 1 dX10_runScript_61 (by decide) ?_
        have hnk : n.toInt.toNat = k := by have := h32 c42; omega
        refine mx_top (y := nI (fl_runScript n sc - 1)) (congrArg nI (show 1 = fl_runScript n sc - 1 by unfold fl_runScript; rw [if_neg (fun q => q c42), if_pos (by rw [hnk]; exact c54)])) ?_
        exact J62 ()
      · skip
        refine mx_iconstN 0 dX10_runScript_57 (by decide) ?_
        refine mx_goto (tgt := 62) dX10_runScript_58 (by decide) ?_
        have hnk : n.toInt.toNat = k := by have := h32 c42; omega
        refine mx_top (y := nI (fl_runScript n sc - 1)) (congrArg nI (show 0 = fl_runScript n sc - 1 by unfold fl_runScript; rw [if_neg (fun q => q c42), if_neg (fun q => q (by rw [hnk]; exact c54))])) ?_
        exact J62 ()
  have L6 : ∀ (fq : Nat) (k : Nat), 3 - k < fq → (k ≤ 3) → ((k : Int) ≤ n.toInt ∨ k = 0) → mx_V mX10_runScript mx_S0 8 0 0 6 [some (.ref m), some (.int n), some (.long sc), none, some (.long (lN (100000 ^ k))), none, some (.int (nI k)), none] [] G I (fun rv Gz Iz => (fun rv I1 => I1 m 0 = nI (fl_runScript n sc - 1) ∧ mx_fr I I1 m (m + 23) ∧ ((fl_runScript n sc - 1) = 0 → rv = some (.int (am_runScript z n.toInt.toNat sc.toInt.toNat)) ∧ mW G I1 m (z)) ∧ (¬ (fl_runScript n sc - 1) = 0 → (∃ w9, rv = some (.int w9)) ∧ mW G I1 m z)) rv Iz ∧ Gz = G) (fun _ _ _ => False) := by
    intro fq
    induction fq with
    | zero => intro k hfu; exact absurd hfu (Nat.not_lt_zero _)
    | succ fq ih =>
      intro k hfu hk hkn
      refine mx_iload (i := 6) (hl := rfl) (hd := dX10_runScript_6) ?_
      refine mx_iload_n (i := 1) (hi := rfl) (hl := rfl) (hd := dX10_runScript_8) ?_
      refine mx_cmpNR_ge 32 dX10_runScript_9 (by decide) (by omega) (fun c9 => ?_) (fun c9 => ?_)
      · skip
        exact J32 k (by omega) (by omega)
      · skip
        refine mx_iload (i := 6) (hl := rfl) (hd := dX10_runScript_12) ?_
        refine mx_iconstN 3 dX10_runScript_14 (by decide) ?_
        refine mx_cmpN_ge 32 dX10_runScript_15 (by decide) (by omega) (by omega) (fun c15 => ?_) (fun c15 => ?_)
        · skip
          exact J32 k (by omega) (by omega)
        · skip
          refine mx_lload (i := 4) (hl := rfl) (hd := dX10_runScript_18) ?_
          refine mx_ldc2 (v := (100000)) k_1374 dX10_runScript_20 ?_
          refine mx_topl (y := lN 100000) (rfl) ?_
          refine mx_lmul dX10_runScript_23 ?_
          refine mx_topl (y := lN (100000 ^ (k + 1))) (by rw [lN_mul, Nat.pow_succ]) ?_
          refine mx_lstoreE (i := 4) (ls' := [some (.ref m), some (.int n), some (.long sc), none, some (.long (lN (100000 ^ (k + 1)))), none, some (.int (nI k)), none]) (hd := dX10_runScript_24) (hn := by decide) (hok := rfl) (hls := rfl) ?_
          refine mx_iincE (i := 6) (ls' := [some (.ref m), some (.int n), some (.long sc), none, some (.long (lN (100000 ^ (k + 1)))), none, some (.int (nI (k + 1))), none]) 1 dX10_runScript_26 rfl (by decide) (by decide) rfl rfl ?_
          refine mx_goto (tgt := 6) dX10_runScript_29 (by decide) ?_
          exact ih (k + 1) (by omega) (by omega) (by omega)
  refine mx_iconstN 0 dX10_runScript_3 (by decide) ?_
  refine mx_istoreE (i := 6) (ls' := [some (.ref m), some (.int n), some (.long sc), none, some (.long (lN (100000 ^ 0))), none, some (.int (nI 0)), none]) (hd := dX10_runScript_4) (hn := by decide) (hok := rfl) (hls := rfl) ?_
  exact L6 _ 0 (Nat.lt_succ_self _) (by omega) (by omega)
