/-! THE CLASS BestPath: what is left to one person, found backwards; the walk along it -/
def oBP (G : mx_G) (o : Nat) : Prop := mx_tg G o = 10 ∧ (mx_rf G o 0 = o + 1 ∧ mx_tg G (o + 1) = 1 ∧ mx_ln G (o + 1) = 168) ∧ (mx_rf G o 1 = o + 2 ∧ mx_tg G (o + 2) = 1 ∧ mx_ln G (o + 2) = 8) ∧ mx_rf G o 2 = o + 3 ∧ oWH G (o + 3)
abbrev Rw : Type := (Nat → Nat) × (Nat → Nat)
def bpN (I : mx_I) (o : Nat) (st : Nat → Nat) (x : Rw) : Prop := arN I (o + 1) x.1 168 ∧ arN I (o + 2) st 8 ∧ arN I (o + 4) x.2 80
theorem bpN.fr {I I' : mx_I} {o lo hi : Nat} {st : Nat → Nat} {x : Rw} (h : bpN I o st x) (f : mx_fr I I' lo hi) (d : o + 5 ≤ lo ∨ hi ≤ o) : bpN I' o st x := ⟨h.1.f f (by omega), h.2.1.f f (by omega), h.2.2.f f (by omega)⟩
def rwB (x : Rw) : Prop := (∀ j, x.1 j ≤ 387072) ∧ ∀ j, x.2 j < 2 ^ 21
def ofS (u pl val : Nat) : Nat → (Nat → Nat) × Nat → (Nat → Nat) × Nat
  | 0, x => x
  | i + 1, x => if pl.testBit i = true ∧ val < (ofS u pl val i x).1 (u * 21 + i) then (fun j => if j = u * 21 + i then val else (ofS u pl val i x).1 j, (ofS u pl val i x).2 ||| 2 ^ i) else ofS u pl val i x
theorem ofS_up {u pl val i : Nat} {x : (Nat → Nat) × Nat} (h : ∀ j, i ≤ j → pl.testBit j = false) : ∀ n, i ≤ n → ofS u pl val n x = ofS u pl val i x := by
  intro n hn
  induction n with
  | zero => rw [show i = 0 by omega]
  | succ n ih =>
    by_cases e : i = n + 1
    · rw [e]
    · rw [ofS, h n (by omega), if_neg (fun q => Bool.noConfusion q.1)]
      exact ih (by omega)
theorem ofS_lt {u pl val : Nat} {x : (Nat → Nat) × Nat} (h1 : ∀ j, x.1 j ≤ 387072) (h2 : x.2 < 2 ^ 21) : ∀ i, i ≤ 21 → (∀ j, (ofS u pl val i x).1 j ≤ 387072) ∧ (ofS u pl val i x).2 < 2 ^ 21 := by
  intro i hi
  induction i with
  | zero => exact ⟨h1, h2⟩
  | succ i ih =>
    obtain ⟨a, b⟩ := ih (by omega)
    unfold ofS
    split
    · next c =>
      refine ⟨fun j => ?_, mx_or_lt b (Nat.pow_lt_pow_right (by decide) (by omega))⟩
      show (if j = u * 21 + i then val else (ofS u pl val i x).1 j) ≤ 387072
      split
      · have := a (u * 21 + i); omega
      · exact a j
    · exact ⟨a, b⟩
/-- offer, whole -/
def ofA (u pl val : Nat) (x : Rw) : Rw := ((ofS u pl val 21 (x.1, 0)).1, whP x.2 (val / 256) u (ofS u pl val 21 (x.1, 0)).2)
theorem rwB.ofA {x : Rw} (h : rwB x) (u pl val : Nat) : rwB (ofA u pl val x) := by
  obtain ⟨a, b⟩ := ofS_lt (u := u) (pl := pl) (val := val) (x := (x.1, 0)) h.1 (Nat.two_pow_pos 21) 21 (Nat.le_refl _)
  exact ⟨a, whP_lt h.2 _ _ b⟩
def gbV (v : Gr) (u i s : Nat) (x : Rw) : Nat := x.1 (u * 21 + i) + 256 * gC v s + 1
def gbA (v : Gr) (A : Pa) (u i s val : Nat) (x : Rw) : Rw := if gT v s = u ∧ ¬ 2 ^ i &&& pEn A 0 (gK v s) = 0 then ofA (gF v s) (pB A i) val x else x
def gbB (v : Gr) (A : Pa) (u i s val : Nat) (x : Rw) : Rw := if gF v s = u ∧ ¬ 2 ^ i &&& pEn A 1 (gK v s) = 0 then ofA (gT v s) (pB A i) val x else x
def gbS (v : Gr) (A : Pa) (u i : Nat) : Nat → Rw → Rw
  | 0, x => x
  | s + 1, x => gbB v A u i s (gbV v u i s (gbS v A u i s x)) (gbA v A u i s (gbV v u i s (gbS v A u i s x)) (gbS v A u i s x))
theorem rwB_gbA {v : Gr} {A : Pa} {u i s val : Nat} {x : Rw} (h : rwB x) : rwB (gbA v A u i s val x) := by
  unfold gbA
  split
  · exact h.ofA _ _ _
  · exact h
theorem rwB_gbB {v : Gr} {A : Pa} {u i s val : Nat} {x : Rw} (h : rwB x) : rwB (gbB v A u i s val x) := by
  unfold gbB
  split
  · exact h.ofA _ _ _
  · exact h
theorem rwB_gbS {v : Gr} {A : Pa} {u i : Nat} {x : Rw} (h : rwB x) : ∀ s, rwB (gbS v A u i s x)
  | 0 => h
  | s + 1 => rwB_gbB (rwB_gbA (rwB_gbS h s))
def stS (v : Gr) (A : Pa) (u fresh : Nat) : Nat → Rw → Rw
  | 0, x => x
  | i + 1, x => if fresh.testBit i = true then gbS v A u i (gN v) (stS v A u fresh i x) else stS v A u fresh i x
theorem stS_up {v : Gr} {A : Pa} {u fresh i : Nat} {x : Rw} (h : ∀ j, i ≤ j → fresh.testBit j = false) : ∀ n, i ≤ n → stS v A u fresh n x = stS v A u fresh i x := by
  intro n hn
  induction n with
  | zero => rw [show i = 0 by omega]
  | succ n ih =>
    by_cases e : i = n + 1
    · rw [e]
    · rw [stS, h n (by omega), if_neg (by decide)]
      exact ih (by omega)
theorem rwB_stS {v : Gr} {A : Pa} {u fresh : Nat} {x : Rw} (h : rwB x) : ∀ i, rwB (stS v A u fresh i x)
  | 0 => h
  | i + 1 => by
    unfold stS
    split
    · exact rwB_gbS (rwB_stS h i) _
    · exact rwB_stS h i
abbrev Ab : Type := Nat × (Nat → Nat) × Rw
def aRow1 (v : Gr) (A : Pa) (level u : Nat) (x : Ab) : Ab :=
  if mx_wo (x.2.2.2 (level % 10 * 8 + u)) (x.2.1 u) = 0 then (x.1, x.2.1, x.2.2.1, whD x.2.2.2 level u)
  else (0, seR x.2.1 u (mx_wo (x.2.2.2 (level % 10 * 8 + u)) (x.2.1 u)), stS v A u (mx_wo (x.2.2.2 (level % 10 * 8 + u)) (x.2.1 u)) 21 (x.2.2.1, whD x.2.2.2 level u))
def aRow (v : Gr) (A : Pa) (level : Nat) : Nat → Ab → Ab
  | 0, x => x
  | u + 1, x => aRow1 v A level u (aRow v A level u x)
def aRun (v : Gr) (A : Pa) : Nat → Nat → Ab → Ab
  | 0, _, x => x
  | f + 1, level, x => if x.1 < 10 then aRun v A f (level + 1) (aRow v A level (gP v) (x.1 + 1, x.2)) else x
def aIni (A : Pa) (q : Nat) : Ab := (0, fun _ => 0, ofA q (pAc A) 0 (fun _ => 387072, fun _ => 0))
/-- what is left to q, by person and position -/
def aFin (v : Gr) (A : Pa) (q : Nat) : Ab := aRun v A 1512 0 (aIni A q)
theorem rwB.row1 {v : Gr} {A : Pa} {lv u : Nat} {x : Ab} (h : rwB x.2.2 ∧ x.1 ≤ 11) : rwB (aRow1 v A lv u x).2.2 ∧ (aRow1 v A lv u x).1 ≤ 11 := by
  unfold aRow1
  split
  · exact ⟨⟨h.1.1, whD_lt h.1.2 lv u⟩, h.2⟩
  · exact ⟨rwB_stS (x := (x.2.2.1, whD x.2.2.2 lv u)) ⟨h.1.1, whD_lt h.1.2 lv u⟩ 21, Nat.zero_le _⟩
theorem rwB.ini (A : Pa) (q : Nat) : rwB (aIni A q).2.2 := rwB.ofA (x := (fun _ => 387072, fun _ => 0)) ⟨fun _ => Nat.le_refl _, fun _ => Nat.two_pow_pos 21⟩ q _ _
theorem aRow_B {v : Gr} {A : Pa} {lv : Nat} {x : Ab} (h : rwB x.2.2 ∧ x.1 ≤ 11) : ∀ u, rwB (aRow v A lv u x).2.2 ∧ (aRow v A lv u x).1 ≤ 11
  | 0 => h
  | u + 1 => rwB.row1 (aRow_B h u)
theorem aRun_B {v : Gr} {A : Pa} : ∀ (f lv : Nat) (x : Ab), (rwB x.2.2 ∧ x.1 ≤ 11) → (rwB (aRun v A f lv x).2.2 ∧ (aRun v A f lv x).1 ≤ 11)
  | 0, _, _, h => h
  | f + 1, lv, x, h => by
    unfold aRun
    split
    · next c => exact aRun_B f _ _ (aRow_B (x := (x.1 + 1, x.2)) ⟨h.1, by show x.1 + 1 ≤ 11; omega⟩ _)
    · exact h
theorem aFin_B (v : Gr) (A : Pa) (q : Nat) : rwB (aFin v A q).2.2 := (aRun_B _ _ _ ⟨rwB.ini A q, Nat.zero_le _⟩).1

set_option maxHeartbeats 4000000 in
set_option maxRecDepth 100000 in
theorem ct_bpReset (G : mx_G) (I : mx_I) (o : Nat) (hs : oBP G o) : mx_CTi yX0_reset mX0_reset 2 [.ref o] G I (fun rv I1 => rv = none ∧ bpN I1 o (fun _ => 0) (fun _ => 387072, fun _ => 0) ∧ mx_fr I I1 o (o + 5)) := by
  refine mx_start (k := 1) (by decide) rfl rfl (fun h => nomatch h) (Nat.le_of_ble_eq_true rfl) ?_
  show mx_V mX0_reset mx_S0 2 0 0 0 [some (.ref o), none] [] G I (fun rv Gz Iz => (fun rv I1 => rv = none ∧ bpN I1 o (fun _ => 0) (fun _ => 387072, fun _ => 0) ∧ mx_fr I I1 o (o + 5)) rv Iz ∧ Gz = G) (fun _ _ _ => False)
  obtain ⟨ha0, ⟨ha1, ha2, ha3⟩, ⟨ha4, ha5, ha6⟩, ha7, hwh⟩ := hs
  have hwh0 := hwh
  obtain ⟨hw0, hw1, hw2, hw3⟩ := hwh
  have L32 : ∀ (fq : Nat) (i : Nat) (I1 : mx_I), 8 - i < fq → (i ≤ 8) → (arN I1 (o + 1) (fun _ => 387072) 168) → (arN I1 (o + 2) (fun _ => 0) i) → (arN I1 (o + 4) (fun _ => 0) 80) → (mx_fr I I1 o (o + 5)) → mx_V mX0_reset mx_S0 2 0 0 32 [some (.ref o), some (.int (nI i))] [] G I1 (fun rv Gz Iz => (fun rv I1 => rv = none ∧ bpN I1 o (fun _ => 0) (fun _ => 387072, fun _ => 0) ∧ mx_fr I I1 o (o + 5)) rv Iz ∧ Gz = G) (fun _ _ _ => False) := by
    intro fq
    induction fq with
    | zero => intro i I1 hfu; exact absurd hfu (Nat.not_lt_zero _)
    | succ fq ih =>
      intro i I1 hfu hi a1 a2 a4 hfr
      refine mx_iload_n (i := 1) (hi := rfl) (hl := rfl) (hd := dX0_reset_32) ?_
      refine mx_bipushN 8 dX0_reset_33 (by decide) ?_
      refine mx_cmpN_ge 51 dX0_reset_35 (by decide) (by omega) (by omega) (fun c35 => ?_) (fun c35 => ?_)
      · skip
        refine mx_vret dX0_reset_51 rfl (⟨⟨rfl, ⟨a1, ?_, a4⟩, hfr⟩, rfl⟩)
        have e8 : i = 8 := by omega
        subst e8; exact a2
      · skip
        refine mx_aload_n (i := 0) (hi := rfl) (hl := rfl) (hd := dX0_reset_38) ?_
        refine mx_getR (ci := 0) (k := 1) (r := (o + 2)) dX0_reset_39 k_278 (by decide) rfl (by assumption) (by assumption) (by omega) ?_
        refine mx_iload_n (i := 1) (hi := rfl) (hl := rfl) (hd := dX0_reset_42) ?_
        refine mx_iconstN 0 dX0_reset_43 (by decide) ?_
        refine mx_iast i dX0_reset_44 (by assumption) ⟨rfl, by omega, by omega⟩ ?_
        refine mx_iincE (i := 1) (ls' := [some (.ref o), some (.int (nI (i + 1)))]) 1 dX0_reset_45 rfl (by decide) (by decide) rfl rfl ?_
        refine mx_goto (tgt := 32) dX0_reset_48 (by decide) ?_
        exact ih (i + 1) _ (by omega) (by omega) (a1.o (by omega)) ((a2.up).c (fun j _ => by by_cases e : j = i <;> simp [e])) (a4.o (by omega)) (hfr.u (by omega))
  have L9 : ∀ (fq : Nat) (i : Nat) (I1 : mx_I), 168 - i < fq → (i ≤ 168) → (arN I1 (o + 1) (fun _ => 387072) i) → (arN I1 (o + 4) (fun _ => 0) 80) → (mx_fr I I1 o (o + 5)) → mx_V mX0_reset mx_S0 2 0 0 9 [some (.ref o), some (.int (nI i))] [] G I1 (fun rv Gz Iz => (fun rv I1 => rv = none ∧ bpN I1 o (fun _ => 0) (fun _ => 387072, fun _ => 0) ∧ mx_fr I I1 o (o + 5)) rv Iz ∧ Gz = G) (fun _ _ _ => False) := by
    intro fq
    induction fq with
    | zero => intro i I1 hfu; exact absurd hfu (Nat.not_lt_zero _)
    | succ fq ih =>
      intro i I1 hfu hi a1 a4 hfr
      refine mx_iload_n (i := 1) (hi := rfl) (hl := rfl) (hd := dX0_reset_9) ?_
      refine mx_sipushN 168 dX0_reset_10 (by decide) ?_
      refine mx_cmpN_ge 30 dX0_reset_13 (by decide) (by omega) (by omega) (fun c13 => ?_) (fun c13 => ?_)
      · skip
        refine mx_iconstN 0 dX0_reset_30 (by decide) ?_
        refine mx_istoreE_n (i := 1) (ls' := [some (.ref o), some (.int (nI 0))]) (hi := rfl) (hd := dX0_reset_31) (hn := by decide) (hok := rfl) (hls := rfl) ?_
        exact L32 _ 0 _ (Nat.lt_succ_self _) (by decide) ((show i = 168 by omega) ▸ a1) (fun s hs => absurd hs (Nat.not_lt_zero _)) a4 hfr
      · skip
        refine mx_aload_n (i := 0) (hi := rfl) (hl := rfl) (hd := dX0_reset_16) ?_
        refine mx_getR (ci := 0) (k := 0) (r := (o + 1)) dX0_reset_17 k_277 (by decide) rfl (by assumption) (by assumption) (by omega) ?_
        refine mx_iload_n (i := 1) (hi := rfl) (hl := rfl) (hd := dX0_reset_20) ?_
        refine mx_ldc (v := (387072)) k_591 dX0_reset_21 ?_
        refine mx_top (y := nI 387072) (by decide) ?_
        refine mx_iast i dX0_reset_23 (by assumption) ⟨rfl, by omega, by omega⟩ ?_
        refine mx_iincE (i := 1) (ls' := [some (.ref o), some (.int (nI (i + 1)))]) 1 dX0_reset_24 rfl (by decide) (by decide) rfl rfl ?_
        refine mx_goto (tgt := 9) dX0_reset_27 (by decide) ?_
        exact ih (i + 1) _ (by omega) (by omega) ((a1.up).c (fun j _ => by by_cases e : j = i <;> simp [e])) (a4.o (by omega)) (hfr.u (by omega))
  refine mx_aload_n (i := 0) (hi := rfl) (hl := rfl) (hd := dX0_reset_0) ?_
  refine mx_getR (ci := 0) (k := 2) (r := (o + 3)) dX0_reset_1 k_279 (by decide) rfl (by assumption) (by assumption) (by omega) ?_
  refine mx_callVi (ci := 8) (As := []) (rest := []) dX0_reset_4 (ct_whClear G I (o + 3) hwh0) km_X8_clear rfl k_590 k_547 k_548 (by assumption) rfl rfl (Nat.le_of_ble_eq_true rfl) (by decide) (fun r1 I2 h2 => ?_)
  obtain ⟨e9, hq1, hq2⟩ := h2
  subst e9
  refine mx_iconstN 0 dX0_reset_7 (by decide) ?_
  refine mx_istoreE_n (i := 1) (ls' := [some (.ref o), some (.int (nI 0))]) (hi := rfl) (hd := dX0_reset_8) (hn := by decide) (hok := rfl) (hls := rfl) ?_
  exact L9 _ 0 _ (Nat.lt_succ_self _) (by decide) (fun s hs => absurd hs (Nat.not_lt_zero _)) hq1 (hq2.wk (by omega) (by omega))

set_option maxHeartbeats 4000000 in
set_option maxRecDepth 100000 in
theorem ct_offer (G : mx_G) (I : mx_I) (o : Nat) (hs : oBP G o) (st : Nat → Nat) (x : Rw) (hv : bpN I o st x) (hRB : rwB x) (u pl val : Nat) (hu : u < 8) (hpl : pl < 2 ^ 21) (hval : val < 2 ^ 30) : mx_CTi yX0_offer mX0_offer 2 [.ref o, .int (nI u), .int (nI pl), .int (nI val)] G I (fun rv I1 => rv = none ∧ bpN I1 o st (ofA u pl val x) ∧ mx_fr I I1 o (o + 5)) := by
  refine mx_start (k := 2) (by decide) rfl rfl (fun h => nomatch h) (Nat.le_of_ble_eq_true rfl) ?_
  show mx_V mX0_offer mx_S0 2 0 0 0 [some (.ref o), some (.int (nI u)), some (.int (nI pl)), some (.int (nI val)), none, none] [] G I (fun rv Gz Iz => (fun rv I1 => rv = none ∧ bpN I1 o st (ofA u pl val x) ∧ mx_fr I I1 o (o + 5)) rv Iz ∧ Gz = G) (fun _ _ _ => False)
  obtain ⟨ha0, ⟨ha1, ha2, ha3⟩, ⟨ha4, ha5, ha6⟩, ha7, hwh⟩ := hs
  have hwh0 := hwh
  obtain ⟨hw0, hw1, hw2, hw3⟩ := hwh
  obtain ⟨hr0, hst, hww⟩ := hv
  have L6 : ∀ (fq : Nat) (i n : Nat) (I1 : mx_I), 21 - i < fq → (i ≤ 21) → (n = (ofS u pl val i (x.1, 0)).2) → (arN I1 (o + 1) (ofS u pl val i (x.1, 0)).1 168) → (arN I1 (o + 2) st 8) → (arN I1 (o + 4) x.2 80) → (mx_fr I I1 o (o + 5)) → mx_V mX0_offer mx_S0 2 0 0 6 [some (.ref o), some (.int (nI u)), some (.int (nI pl)), some (.int (nI val)), some (.int (nI n)), some (.int (nI i))] [] G I1 (fun rv Gz Iz => (fun rv I1 => rv = none ∧ bpN I1 o st (ofA u pl val x) ∧ mx_fr I I1 o (o + 5)) rv Iz ∧ Gz = G) (fun _ _ _ => False) := by
    intro fq
    induction fq with
    | zero => intro i n I1 hfu; exact absurd hfu (Nat.not_lt_zero _)
    | succ fq ih =>
      intro i n I1 hfu hi hx a1 a2 a4 hfr
      have hlt := ofS_lt (u := u) (pl := pl) (val := val) (x := (x.1, 0)) hRB.1 (Nat.two_pow_pos 21) i hi
      refine mx_iload (i := 5) (hl := rfl) (hd := dX0_offer_6) ?_
      refine mx_bipushN 21 dX0_offer_8 (by decide) ?_
      refine mx_cmpN_ge 73 dX0_offer_10 (by decide) (by omega) (by omega) (fun c10 => ?_) (fun c10 => ?_)
      · skip
        refine mx_aload_n (i := 0) (hi := rfl) (hl := rfl) (hd := dX0_offer_73) ?_
        refine mx_getR (ci := 0) (k := 2) (r := (o + 3)) dX0_offer_74 k_279 (by decide) rfl (by assumption) (by assumption) (by omega) ?_
        refine mx_iload_n (i := 3) (hi := rfl) (hl := rfl) (hd := dX0_offer_77) ?_
        refine mx_sipushN 256 dX0_offer_78 (by decide) ?_
        refine mx_idivN dX0_offer_81 (by omega) (by decide) ?_
        refine mx_iload_n (i := 1) (hi := rfl) (hl := rfl) (hd := dX0_offer_82) ?_
        refine mx_iload (i := 4) (hl := rfl) (hd := dX0_offer_83) ?_
        refine mx_callVi (ci := 8) (As := [.int (nI (val / 256)), .int (nI u), .int (nI n)]) (rest := []) dX0_offer_85 (ct_whPut G I1 (o + 3) _ hwh0 a4 (val / 256) u n (by omega) hu) km_X8_put rfl k_596 k_551 k_552 (by assumption) rfl rfl (Nat.le_of_ble_eq_true rfl) (by decide) (fun r1 I3 h2 => ?_)
        obtain ⟨e9, hq1, hq2⟩ := h2
        subst e9
        have hend : ofS u pl val 21 (x.1, 0) = ofS u pl val i (x.1, 0) := by
          by_cases e : i = 21
          · rw [e]
          · exact ofS_up (fun j hj => mx_shr0 (by first | exact c17 | omega) hj) 21 hi
        refine mx_vret dX0_offer_88 rfl (⟨⟨rfl, ⟨?_, a2.f hq2 (by omega), ?_⟩, hfr.tr (hq2.wk (by omega) (by omega))⟩, rfl⟩)
        · show arN I3 (o + 1) (ofS u pl val 21 (x.1, 0)).1 168
          rw [hend]; exact a1.f hq2 (by omega)
        · show arN I3 (o + 4) (whP x.2 (val / 256) u (ofS u pl val 21 (x.1, 0)).2) 80
          rw [hend, ← hx]; exact hq1
      · skip
        refine mx_iload_n (i := 2) (hi := rfl) (hl := rfl) (hd := dX0_offer_13) ?_
        refine mx_iload (i := 5) (hl := rfl) (hd := dX0_offer_14) ?_
        refine mx_ishrN dX0_offer_16 (by omega) (by omega) ?_
        refine mx_ifN_eq 73 dX0_offer_17 (by decide) (mx_shr_lt (by omega)) (fun c17 => ?_) (fun c17 => ?_)
        · skip
          refine mx_aload_n (i := 0) (hi := rfl) (hl := rfl) (hd := dX0_offer_73) ?_
          refine mx_getR (ci := 0) (k := 2) (r := (o + 3)) dX0_offer_74 k_279 (by decide) rfl (by assumption) (by assumption) (by omega) ?_
          refine mx_iload_n (i := 3) (hi := rfl) (hl := rfl) (hd := dX0_offer_77) ?_
          refine mx_sipushN 256 dX0_offer_78 (by decide) ?_
          refine mx_idivN dX0_offer_81 (by omega) (by decide) ?_
          refine mx_iload_n (i := 1) (hi := rfl) (hl := rfl) (hd := dX0_offer_82) ?_
          refine mx_iload (i := 4) (hl := rfl) (hd := dX0_offer_83) ?_
          refine mx_callVi (ci := 8) (As := [.int (nI (val / 256)), .int (nI u), .int (nI n)]) (rest := []) dX0_offer_85 (ct_whPut G I1 (o + 3) _ hwh0 a4 (val / 256) u n (by omega) hu) km_X8_put rfl k_596 k_551 k_552 (by assumption) rfl rfl (Nat.le_of_ble_eq_true rfl) (by decide) (fun r3 I3 h4 => ?_)
          obtain ⟨e9, hq1, hq2⟩ := h4
          subst e9
          have hend : ofS u pl val 21 (x.1, 0) = ofS u pl val i (x.1, 0) := by
            by_cases e : i = 21
            · rw [e]
            · exact ofS_up (fun j hj => mx_shr0 (by first | exact c17 | omega) hj) 21 hi
          refine mx_vret dX0_offer_88 rfl (⟨⟨rfl, ⟨?_, a2.f hq2 (by omega), ?_⟩, hfr.tr (hq2.wk (by omega) (by omega))⟩, rfl⟩)
          · show arN I3 (o + 1) (ofS u pl val 21 (x.1, 0)).1 168
            rw [hend]; exact a1.f hq2 (by omega)
          · show arN I3 (o + 4) (whP x.2 (val / 256) u (ofS u pl val 21 (x.1, 0)).2) 80
            rw [hend, ← hx]; exact hq1
        · skip
          refine mx_iload_n (i := 2) (hi := rfl) (hl := rfl) (hd := dX0_offer_20) ?_
          refine mx_iload (i := 5) (hl := rfl) (hd := dX0_offer_21) ?_
          refine mx_ishrN dX0_offer_23 (by omega) (by omega) ?_
          refine mx_iconstN 1 dX0_offer_24 (by decide) ?_
          refine mx_iandN dX0_offer_25 ?_
          refine mx_top (mx_bit _ _) ?_
          refine mx_ifB_eq 67 dX0_offer_26 (by decide) (fun c26 => ?_) (fun c26 => ?_)
          · skip
            refine mx_iincE (i := 5) (ls' := [some (.ref o), some (.int (nI u)), some (.int (nI pl)), some (.int (nI val)), some (.int (nI n)), some (.int (nI (i + 1)))]) 1 dX0_offer_67 rfl (by decide) (by decide) rfl rfl ?_
            refine mx_goto (tgt := 6) dX0_offer_70 (by decide) ?_
            exact ih (i + 1) _ _ (by omega) (by omega) (by rw [ofS, if_neg (by first | exact fun z => c26 z.1 | omega), hx]) (by rw [ofS, if_neg (by first | exact fun z => c26 z.1 | omega)]; exact a1) a2 a4 hfr
          · skip
            refine mx_iload_n (i := 3) (hi := rfl) (hl := rfl) (hd := dX0_offer_29) ?_
            refine mx_aload_n (i := 0) (hi := rfl) (hl := rfl) (hd := dX0_offer_30) ?_
            refine mx_getR (ci := 0) (k := 0) (r := (o + 1)) dX0_offer_31 k_277 (by decide) rfl (by assumption) (by assumption) (by omega) ?_
            refine mx_iload_n (i := 1) (hi := rfl) (hl := rfl) (hd := dX0_offer_34) ?_
            refine mx_bipushN 21 dX0_offer_35 (by decide) ?_
            refine mx_imulN dX0_offer_37 ?_
            refine mx_iload (i := 5) (hl := rfl) (hd := dX0_offer_38) ?_
            refine mx_iaddN dX0_offer_40 ?_
            refine mx_ialdV ((u * 21) + i) (nI ((ofS u pl val i (x.1, 0)).1 ((u * 21) + i))) dX0_offer_41 (by assumption) ⟨rfl, by omega, by omega⟩ (a1 _ (by omega)) ?_
            refine mx_cmpN_ge 67 dX0_offer_42 (by decide) (by omega) (by have := hlt.1 ((u * 21) + i); omega) (fun c42 => ?_) (fun c42 => ?_)
            · skip
              refine mx_iincE (i := 5) (ls' := [some (.ref o), some (.int (nI u)), some (.int (nI pl)), some (.int (nI val)), some (.int (nI n)), some (.int (nI (i + 1)))]) 1 dX0_offer_67 rfl (by decide) (by decide) rfl rfl ?_
              refine mx_goto (tgt := 6) dX0_offer_70 (by decide) ?_
              exact ih (i + 1) _ _ (by omega) (by omega) (by rw [ofS, if_neg (by first | exact fun z => c26 z.1 | omega), hx]) (by rw [ofS, if_neg (by first | exact fun z => c26 z.1 | omega)]; exact a1) a2 a4 hfr
            · skip
              refine mx_aload_n (i := 0) (hi := rfl) (hl := rfl) (hd := dX0_offer_45) ?_
              refine mx_getR (ci := 0) (k := 0) (r := (o + 1)) dX0_offer_46 k_277 (by decide) rfl (by assumption) (by assumption) (by omega) ?_
              refine mx_iload_n (i := 1) (hi := rfl) (hl := rfl) (hd := dX0_offer_49) ?_
              refine mx_bipushN 21 dX0_offer_50 (by decide) ?_
              refine mx_imulN dX0_offer_52 ?_
              refine mx_iload (i := 5) (hl := rfl) (hd := dX0_offer_53) ?_
              refine mx_iaddN dX0_offer_55 ?_
              refine mx_iload_n (i := 3) (hi := rfl) (hl := rfl) (hd := dX0_offer_56) ?_
              refine mx_iast ((u * 21) + i) dX0_offer_57 (by assumption) ⟨rfl, by omega, by omega⟩ ?_
              refine mx_iload (i := 4) (hl := rfl) (hd := dX0_offer_58) ?_
              refine mx_iconstN 1 dX0_offer_60 (by decide) ?_
              refine mx_iload (i := 5) (hl := rfl) (hd := dX0_offer_61) ?_
              refine mx_ishl1N dX0_offer_63 (by omega) ?_
              refine mx_iorN dX0_offer_64 ?_
              refine mx_istoreE (i := 4) (ls' := [some (.ref o), some (.int (nI u)), some (.int (nI pl)), some (.int (nI val)), some (.int (nI (n ||| (2 ^ i)))), some (.int (nI i))]) (hd := dX0_offer_65) (hn := by decide) (hok := rfl) (hls := rfl) ?_
              refine mx_iincE (i := 5) (ls' := [some (.ref o), some (.int (nI u)), some (.int (nI pl)), some (.int (nI val)), some (.int (nI (n ||| (2 ^ i)))), some (.int (nI (i + 1)))]) 1 dX0_offer_67 rfl (by decide) (by decide) rfl rfl ?_
              refine mx_goto (tgt := 6) dX0_offer_70 (by decide) ?_
              exact ih (i + 1) _ _ (by omega) (by omega) (by rw [ofS, if_pos ⟨c26, by omega⟩, hx]) (by rw [ofS, if_pos ⟨c26, by omega⟩]; exact a1.u) (a2.o (by omega)) (a4.o (by omega)) (hfr.u (by omega))
  refine mx_iconstN 0 dX0_offer_0 (by decide) ?_
  refine mx_istoreE (i := 4) (ls' := [some (.ref o), some (.int (nI u)), some (.int (nI pl)), some (.int (nI val)), some (.int (nI 0)), none]) (hd := dX0_offer_1) (hn := by decide) (hok := rfl) (hls := rfl) ?_
  refine mx_iconstN 0 dX0_offer_3 (by decide) ?_
  refine mx_istoreE (i := 5) (ls' := [some (.ref o), some (.int (nI u)), some (.int (nI pl)), some (.int (nI val)), some (.int (nI 0)), some (.int (nI 0))]) (hd := dX0_offer_4) (hn := by decide) (hok := rfl) (hls := rfl) ?_
  exact L6 _ 0 0 I (Nat.lt_succ_self _) (by decide) rfl hr0 hst hww (mx_fr.rf _ _ _)

set_option maxHeartbeats 4000000 in
set_option maxRecDepth 100000 in
theorem ct_goBack (G : mx_G) (I : mx_I) (o : Nat) (hs : oBP G o) (q pt : Nat) (v : Gr) (A : Pa) (he : env G I q pt v A) (hd1 : q + 5 ≤ o ∨ o + 5 ≤ q) (hd2 : pt + 5 ≤ o ∨ o + 5 ≤ pt) (st : Nat → Nat) (x : Rw) (hv : bpN I o st x) (hRB : rwB x) (u i : Nat) (hu : u < 8) (hi : i < 21) : mx_CTi yX0_goBack mX0_goBack 3 [.ref o, .ref q, .int (nI u), .int (nI i)] G I (fun rv I1 => rv = none ∧ bpN I1 o st (gbS v A u i (gN v) x) ∧ mx_fr I I1 o (o + 5)) := by
  refine mx_start (k := 3) (by decide) rfl rfl (fun h => nomatch h) (Nat.le_of_ble_eq_true rfl) ?_
  show mx_V mX0_goBack mx_S0 3 0 0 0 [some (.ref o), some (.ref q), some (.int (nI u)), some (.int (nI i)), none, none, none] [] G I (fun rv Gz Iz => (fun rv I1 => rv = none ∧ bpN I1 o st (gbS v A u i (gN v) x) ∧ mx_fr I I1 o (o + 5)) rv Iz ∧ Gz = G) (fun _ _ _ => False)
  have he0 := he
  have hs0 := hs
  have hi2 : 2 ^ i < 2 ^ 21 := Nat.pow_lt_pow_right (by decide) hi
  obtain ⟨hsq, hsp, hrp, hvq, hvp⟩ := he
  obtain ⟨hg0, ⟨hg2, hg3, hg4⟩, ⟨hg5, hg6, hg7⟩, ⟨hg8, hg9, hg10⟩, ⟨hg11, hg12, hg13⟩⟩ := hsq
  obtain ⟨⟨hP, hN, hb⟩, hv0, hv1, hF, hK, hT, hC⟩ := hvq
  obtain ⟨hp0, ⟨hp2, hp3, hp4⟩, ⟨hp5, hp6, hp7⟩, ⟨hp8, hp9, hp10⟩, ⟨hp11, hp12, hp13⟩⟩ := hsp
  obtain ⟨⟨hwL, hwA, hwB, hwE, hwc, hwz, hwx⟩, hu1, hu2, hu6, hCh, hA, hB, hE⟩ := hvp
  obtain ⟨ha0, ⟨ha1, ha2, ha3⟩, ⟨ha4, ha5, ha6⟩, ha7, hwh⟩ := hs
  have hwh0 := hwh
  obtain ⟨hw0, hw1, hw2, hw3⟩ := hwh
  have L14 : ∀ (fq : Nat) (s : Nat) (I1 : mx_I), gN v - s < fq → (s ≤ gN v) → (bpN I1 o st (gbS v A u i s x)) → (mx_fr I I1 o (o + 5)) → mx_V mX0_goBack mx_S0 3 0 0 14 [some (.ref o), some (.ref q), some (.int (nI u)), some (.int (nI i)), some (.int (nI (pB A i))), some (.int (nI s)), none] [] G I1 (fun rv Gz Iz => (fun rv I1 => rv = none ∧ bpN I1 o st (gbS v A u i (gN v) x) ∧ mx_fr I I1 o (o + 5)) rv Iz ∧ Gz = G) (fun _ _ _ => False) := by
    intro fq
    induction fq with
    | zero => intro s I1 hfu; exact absurd hfu (Nat.not_lt_zero _)
    | succ fq ih =>
      intro s I1 hfu hs1 h1 hfr
      have J89 : ∀ (I2 : mx_I), (s < gN v) → (gbV v u i s (gbS v A u i s x) < 2 ^ 30) → (bpN I2 o st (gbA v A u i s (gbV v u i s (gbS v A u i s x)) (gbS v A u i s x))) → (mx_fr I I2 o (o + 5)) → mx_V mX0_goBack mx_S0 3 0 0 89 [some (.ref o), some (.ref q), some (.int (nI u)), some (.int (nI i)), some (.int (nI (pB A i))), some (.int (nI s)), some (.int (nI (gbV v u i s (gbS v A u i s x))))] [] G I2 (fun rv Gz Iz => (fun rv I1 => rv = none ∧ bpN I1 o st (gbS v A u i (gN v) x) ∧ mx_fr I I1 o (o + 5)) rv Iz ∧ Gz = G) (fun _ _ _ => False) := by
        intro I2 hsn hGV h1 hfr
        refine mx_aload_n (i := 1) (hi := rfl) (hl := rfl) (hd := dX0_goBack_89) ?_
        refine mx_getR (ci := 6) (k := 2) (r := (q + 1)) dX0_goBack_90 k_176 (by decide) rfl (by assumption) (by assumption) (by omega) ?_
        refine mx_iload (i := 5) (hl := rfl) (hd := dX0_goBack_93) ?_
        refine mx_ialdV s (nI (gF v s)) dX0_goBack_95 (by assumption) ⟨rfl, by omega, by omega⟩ (hF.f hfr (by omega) s (by omega)) ?_
        refine mx_iload_n (i := 2) (hi := rfl) (hl := rfl) (hd := dX0_goBack_96) ?_
        refine mx_cmpN_ne 128 dX0_goBack_97 (by decide) (by have := hb s (by omega); omega) (by omega) (fun c97 => ?_) (fun c97 => ?_)
        · skip
          refine mx_iincE (i := 5) (ls' := [some (.ref o), some (.ref q), some (.int (nI u)), some (.int (nI i)), some (.int (nI (pB A i))), some (.int (nI (s + 1))), some (.int (nI (gbV v u i s (gbS v A u i s x))))]) 1 dX0_goBack_128 rfl (by decide) (by decide) rfl rfl ?_
          refine mx_goto (tgt := 14) dX0_goBack_131 (by decide) ?_
          refine mx_leS (ls' := [some (.ref o), some (.ref q), some (.int (nI u)), some (.int (nI i)), some (.int (nI (pB A i))), some (.int (nI (s + 1))), none]) ⟨rfl, rfl, rfl, rfl, rfl, rfl, trivial⟩ ?_
          exact ih (s + 1) _ (by omega) (by omega) (by unfold gbS gbB; rw [if_neg (by first | exact fun z => c97 z.1 | exact fun z => z.2 c110)]; exact h1) hfr
        · skip
          refine mx_aload_n (i := 1) (hi := rfl) (hl := rfl) (hd := dX0_goBack_100) ?_
          refine mx_iconstN 1 dX0_goBack_101 (by decide) ?_
          refine mx_iload_n (i := 3) (hi := rfl) (hl := rfl) (hd := dX0_goBack_102) ?_
          refine mx_ishl1N dX0_goBack_103 (by omega) ?_
          refine mx_iload (i := 5) (hl := rfl) (hd := dX0_goBack_104) ?_
          refine mx_iconstN 1 dX0_goBack_106 (by decide) ?_
          refine mx_callVp (ci := 6) (As := [.int (nI (2 ^ i)), .int (nI s), .int (nI 1)]) (rest := []) dX0_goBack_107 (ct_enter G I2 q pt v A (he0.fr hfr (by omega) (by omega)) (2 ^ i) s 1 (by omega) (by decide)) km_X6_enter rfl k_606 k_575 k_576 (by assumption) rfl rfl (Nat.le_of_ble_eq_true rfl) (by decide) ?_
          refine mx_ifN_eq 128 dX0_goBack_110 (by decide) (by have := mx_and_lt (b := pEn A 1 (gK v s)) hi2; omega) (fun c110 => ?_) (fun c110 => ?_)
          · skip
            refine mx_iincE (i := 5) (ls' := [some (.ref o), some (.ref q), some (.int (nI u)), some (.int (nI i)), some (.int (nI (pB A i))), some (.int (nI (s + 1))), some (.int (nI (gbV v u i s (gbS v A u i s x))))]) 1 dX0_goBack_128 rfl (by decide) (by decide) rfl rfl ?_
            refine mx_goto (tgt := 14) dX0_goBack_131 (by decide) ?_
            refine mx_leS (ls' := [some (.ref o), some (.ref q), some (.int (nI u)), some (.int (nI i)), some (.int (nI (pB A i))), some (.int (nI (s + 1))), none]) ⟨rfl, rfl, rfl, rfl, rfl, rfl, trivial⟩ ?_
            exact ih (s + 1) _ (by omega) (by omega) (by unfold gbS gbB; rw [if_neg (by first | exact fun z => c97 z.1 | exact fun z => z.2 c110)]; exact h1) hfr
          · skip
            refine mx_aload_n (i := 0) (hi := rfl) (hl := rfl) (hd := dX0_goBack_113) ?_
            refine mx_aload_n (i := 1) (hi := rfl) (hl := rfl) (hd := dX0_goBack_114) ?_
            refine mx_getR (ci := 6) (k := 4) (r := (q + 3)) dX0_goBack_115 k_184 (by decide) rfl (by assumption) (by assumption) (by omega) ?_
            refine mx_iload (i := 5) (hl := rfl) (hd := dX0_goBack_118) ?_
            refine mx_ialdV s (nI (gT v s)) dX0_goBack_120 (by assumption) ⟨rfl, by omega, by omega⟩ (hT.f hfr (by omega) s (by omega)) ?_
            refine mx_iload (i := 4) (hl := rfl) (hd := dX0_goBack_121) ?_
            refine mx_iload (i := 6) (hl := rfl) (hd := dX0_goBack_123) ?_
            refine mx_callVi (ci := 0) (As := [.int (nI (gT v s)), .int (nI (pB A i)), .int (nI (gbV v u i s (gbS v A u i s x)))]) (rest := []) dX0_goBack_125 (ct_offer G I2 o hs0 st _ h1 (rwB_gbA (rwB_gbS hRB s)) (gT v s) (pB A i) (gbV v u i s (gbS v A u i s x)) (by have := hb s (by omega); omega) (hwB i hi) (by have := hGV; omega)) km_X0_offer rfl k_592 k_594 k_14 (by assumption) rfl rfl (Nat.le_of_ble_eq_true rfl) (by decide) (fun r1 I3 h2 => ?_)
            obtain ⟨e9, m1, m2⟩ := h2
            subst e9
            have m3 := hfr.tr m2
            refine mx_iincE (i := 5) (ls' := [some (.ref o), some (.ref q), some (.int (nI u)), some (.int (nI i)), some (.int (nI (pB A i))), some (.int (nI (s + 1))), some (.int (nI (gbV v u i s (gbS v A u i s x))))]) 1 dX0_goBack_128 rfl (by decide) (by decide) rfl rfl ?_
            refine mx_goto (tgt := 14) dX0_goBack_131 (by decide) ?_
            refine mx_leS (ls' := [some (.ref o), some (.ref q), some (.int (nI u)), some (.int (nI i)), some (.int (nI (pB A i))), some (.int (nI (s + 1))), none]) ⟨rfl, rfl, rfl, rfl, rfl, rfl, trivial⟩ ?_
            exact ih (s + 1) _ (by omega) (by omega) (by unfold gbS gbB; rw [if_pos ⟨c97, c110⟩]; exact m1) m3
      refine mx_iload (i := 5) (hl := rfl) (hd := dX0_goBack_14) ?_
      refine mx_aload_n (i := 1) (hi := rfl) (hl := rfl) (hd := dX0_goBack_16) ?_
      refine mx_getV (ci := 6) (k := 1) (nI (gN v)) dX0_goBack_17 k_171 (by decide) rfl (by assumption) (by rw [hfr _ (by omega)]; exact hv1) ?_
      refine mx_cmpN_ge 134 dX0_goBack_20 (by decide) (by omega) (by omega) (fun c20 => ?_) (fun c20 => ?_)
      · skip
        exact mx_vret dX0_goBack_134 rfl (⟨⟨rfl, (show s = gN v by omega) ▸ h1, hfr⟩, rfl⟩)
      · skip
        refine mx_aload_n (i := 0) (hi := rfl) (hl := rfl) (hd := dX0_goBack_23) ?_
        refine mx_getR (ci := 0) (k := 0) (r := (o + 1)) dX0_goBack_24 k_277 (by decide) rfl (by assumption) (by assumption) (by omega) ?_
        refine mx_iload_n (i := 2) (hi := rfl) (hl := rfl) (hd := dX0_goBack_27) ?_
        refine mx_bipushN 21 dX0_goBack_28 (by decide) ?_
        refine mx_imulN dX0_goBack_30 ?_
        refine mx_iload_n (i := 3) (hi := rfl) (hl := rfl) (hd := dX0_goBack_31) ?_
        refine mx_iaddN dX0_goBack_32 ?_
        refine mx_ialdV ((u * 21) + i) (nI ((gbS v A u i s x).1 (u * 21 + i))) dX0_goBack_33 (by assumption) ⟨rfl, by omega, by omega⟩ (h1.1 _ (by omega)) ?_
        refine mx_sipushN 256 dX0_goBack_34 (by decide) ?_
        refine mx_aload_n (i := 1) (hi := rfl) (hl := rfl) (hd := dX0_goBack_37) ?_
        refine mx_getR (ci := 6) (k := 5) (r := (q + 4)) dX0_goBack_38 k_189 (by decide) rfl (by assumption) (by assumption) (by omega) ?_
        refine mx_iload (i := 5) (hl := rfl) (hd := dX0_goBack_41) ?_
        refine mx_ialdV s (nI (gC v s)) dX0_goBack_43 (by assumption) ⟨rfl, by omega, by omega⟩ (hC.f hfr (by omega) s (by omega)) ?_
        refine mx_imulN dX0_goBack_44 ?_
        refine mx_iaddN dX0_goBack_45 ?_
        refine mx_iconstN 1 dX0_goBack_46 (by decide) ?_
        refine mx_iaddN dX0_goBack_47 ?_
        refine mx_istoreE (i := 6) (ls' := [some (.ref o), some (.ref q), some (.int (nI u)), some (.int (nI i)), some (.int (nI (pB A i))), some (.int (nI s)), some (.int (nI ((((gbS v A u i s x).1 (u * 21 + i)) + (256 * (gC v s))) + 1)))]) (hd := dX0_goBack_48) (hn := by decide) (hok := rfl) (hls := rfl) ?_
        have hsn : s < gN v := by omega
        have hGV : gbV v u i s (gbS v A u i s x) < 2 ^ 30 := by
          have a := (rwB_gbS hRB (v := v) (A := A) (u := u) (i := i) s).1 (u * 21 + i)
          have b := hb s hsn
          show (gbS v A u i s x).1 (u * 21 + i) + 256 * gC v s + 1 < 2 ^ 30
          omega
        refine mx_aload_n (i := 1) (hi := rfl) (hl := rfl) (hd := dX0_goBack_50) ?_
        refine mx_getR (ci := 6) (k := 4) (r := (q + 3)) dX0_goBack_51 k_184 (by decide) rfl (by assumption) (by assumption) (by omega) ?_
        refine mx_iload (i := 5) (hl := rfl) (hd := dX0_goBack_54) ?_
        refine mx_ialdV s (nI (gT v s)) dX0_goBack_56 (by assumption) ⟨rfl, by omega, by omega⟩ (hT.f hfr (by omega) s (by omega)) ?_
        refine mx_iload_n (i := 2) (hi := rfl) (hl := rfl) (hd := dX0_goBack_57) ?_
        refine mx_cmpN_ne 89 dX0_goBack_58 (by decide) (by have := hb s (by omega); omega) (by omega) (fun c58 => ?_) (fun c58 => ?_)
        · skip
          exact J89 _ hsn hGV (by unfold gbA; rw [if_neg (by first | exact fun z => c58 z.1 | exact fun z => z.2 c71)]; exact h1) hfr
        · skip
          refine mx_aload_n (i := 1) (hi := rfl) (hl := rfl) (hd := dX0_goBack_61) ?_
          refine mx_iconstN 1 dX0_goBack_62 (by decide) ?_
          refine mx_iload_n (i := 3) (hi := rfl) (hl := rfl) (hd := dX0_goBack_63) ?_
          refine mx_ishl1N dX0_goBack_64 (by omega) ?_
          refine mx_iload (i := 5) (hl := rfl) (hd := dX0_goBack_65) ?_
          refine mx_iconstN 0 dX0_goBack_67 (by decide) ?_
          refine mx_callVp (ci := 6) (As := [.int (nI (2 ^ i)), .int (nI s), .int (nI 0)]) (rest := []) dX0_goBack_68 (ct_enter G I1 q pt v A (he0.fr hfr (by omega) (by omega)) (2 ^ i) s 0 (by omega) (by decide)) km_X6_enter rfl k_606 k_575 k_576 (by assumption) rfl rfl (Nat.le_of_ble_eq_true rfl) (by decide) ?_
          refine mx_ifN_eq 89 dX0_goBack_71 (by decide) (by have := mx_and_lt (b := pEn A 0 (gK v s)) hi2; omega) (fun c71 => ?_) (fun c71 => ?_)
          · skip
            exact J89 _ hsn hGV (by unfold gbA; rw [if_neg (by first | exact fun z => c58 z.1 | exact fun z => z.2 c71)]; exact h1) hfr
          · skip
            refine mx_aload_n (i := 0) (hi := rfl) (hl := rfl) (hd := dX0_goBack_74) ?_
            refine mx_aload_n (i := 1) (hi := rfl) (hl := rfl) (hd := dX0_goBack_75) ?_
            refine mx_getR (ci := 6) (k := 2) (r := (q + 1)) dX0_goBack_76 k_176 (by decide) rfl (by assumption) (by assumption) (by omega) ?_
            refine mx_iload (i := 5) (hl := rfl) (hd := dX0_goBack_79) ?_
            refine mx_ialdV s (nI (gF v s)) dX0_goBack_81 (by assumption) ⟨rfl, by omega, by omega⟩ (hF.f hfr (by omega) s (by omega)) ?_
            refine mx_iload (i := 4) (hl := rfl) (hd := dX0_goBack_82) ?_
            refine mx_iload (i := 6) (hl := rfl) (hd := dX0_goBack_84) ?_
            refine mx_callVi (ci := 0) (As := [.int (nI (gF v s)), .int (nI (pB A i)), .int (nI (gbV v u i s (gbS v A u i s x)))]) (rest := []) dX0_goBack_86 (ct_offer G I1 o hs0 st _ h1 (rwB_gbS hRB s) (gF v s) (pB A i) (gbV v u i s (gbS v A u i s x)) (by have := hb s (by omega); omega) (hwB i hi) (by have := hGV; omega)) km_X0_offer rfl k_592 k_594 k_14 (by assumption) rfl rfl (Nat.le_of_ble_eq_true rfl) (by decide) (fun r3 I3 h4 => ?_)
            obtain ⟨e9, m1, m2⟩ := h4
            subst e9
            have m3 := hfr.tr m2
            exact J89 _ hsn hGV (by unfold gbA; rw [if_pos ⟨c58, c71⟩]; exact m1) m3
  refine mx_aload_n (i := 1) (hi := rfl) (hl := rfl) (hd := dX0_goBack_0) ?_
  refine mx_getR (ci := 6) (k := 6) (r := pt) dX0_goBack_1 k_192 (by decide) rfl (by assumption) (by assumption) (by omega) ?_
  refine mx_getR (ci := 2) (k := 4) (r := (pt + 3)) dX0_goBack_4 k_90 (by decide) rfl (by assumption) (by assumption) (by omega) ?_
  refine mx_iload_n (i := 3) (hi := rfl) (hl := rfl) (hd := dX0_goBack_7) ?_
  refine mx_ialdV i (nI (pB A i)) dX0_goBack_8 (by assumption) ⟨rfl, by omega, by omega⟩ (hB i (by omega)) ?_
  refine mx_istoreE (i := 4) (ls' := [some (.ref o), some (.ref q), some (.int (nI u)), some (.int (nI i)), some (.int (nI (pB A i))), none, none]) (hd := dX0_goBack_9) (hn := by decide) (hok := rfl) (hls := rfl) ?_
  refine mx_iconstN 0 dX0_goBack_11 (by decide) ?_
  refine mx_istoreE (i := 5) (ls' := [some (.ref o), some (.ref q), some (.int (nI u)), some (.int (nI i)), some (.int (nI (pB A i))), some (.int (nI 0)), none]) (hd := dX0_goBack_12) (hn := by decide) (hok := rfl) (hls := rfl) ?_
  exact L14 _ 0 I (Nat.lt_succ_self _) (Nat.zero_le _) hv (mx_fr.rf _ _ _)

set_option maxHeartbeats 4000000 in
set_option maxRecDepth 100000 in
theorem ct_bpSettle (G : mx_G) (I : mx_I) (o : Nat) (hs : oBP G o) (q pt : Nat) (v : Gr) (A : Pa) (he : env G I q pt v A) (hd1 : q + 5 ≤ o ∨ o + 5 ≤ q) (hd2 : pt + 5 ≤ o ∨ o + 5 ≤ pt) (st : Nat → Nat) (x : Rw) (hv : bpN I o st x) (hRB : rwB x) (u fresh : Nat) (hu : u < 8) (hfs : fresh < 2 ^ 21) : mx_CTi yX0_settle mX0_settle 4 [.ref o, .ref q, .int (nI u), .int (nI fresh)] G I (fun rv I1 => rv = none ∧ bpN I1 o (seR st u fresh) (stS v A u fresh 21 x) ∧ mx_fr I I1 o (o + 5)) := by
  refine mx_start (k := 1) (by decide) rfl rfl (fun h => nomatch h) (Nat.le_of_ble_eq_true rfl) ?_
  show mx_V mX0_settle mx_S0 4 0 0 0 [some (.ref o), some (.ref q), some (.int (nI u)), some (.int (nI fresh)), none] [] G I (fun rv Gz Iz => (fun rv I1 => rv = none ∧ bpN I1 o (seR st u fresh) (stS v A u fresh 21 x) ∧ mx_fr I I1 o (o + 5)) rv Iz ∧ Gz = G) (fun _ _ _ => False)
  have he0 := he
  have hs0 := hs
  obtain ⟨hr0, hst, hww⟩ := hv
  obtain ⟨ha0, ⟨ha1, ha2, ha3⟩, ⟨ha4, ha5, ha6⟩, ha7, hwh⟩ := hs
  have hwh0 := hwh
  obtain ⟨hw0, hw1, hw2, hw3⟩ := hwh
  have L13 : ∀ (fq : Nat) (i : Nat) (I1 : mx_I), 21 - i < fq → (i ≤ 21) → (bpN I1 o (seR st u fresh) (stS v A u fresh i x)) → (mx_fr I I1 o (o + 5)) → mx_V mX0_settle mx_S0 4 0 0 13 [some (.ref o), some (.ref q), some (.int (nI u)), some (.int (nI fresh)), some (.int (nI i))] [] G I1 (fun rv Gz Iz => (fun rv I1 => rv = none ∧ bpN I1 o (seR st u fresh) (stS v A u fresh 21 x) ∧ mx_fr I I1 o (o + 5)) rv Iz ∧ Gz = G) (fun _ _ _ => False) := by
    intro fq
    induction fq with
    | zero => intro i I1 hfu; exact absurd hfu (Nat.not_lt_zero _)
    | succ fq ih =>
      intro i I1 hfu hi h1 hfr
      refine mx_iload (i := 4) (hl := rfl) (hd := dX0_settle_13) ?_
      refine mx_bipushN 21 dX0_settle_15 (by decide) ?_
      refine mx_cmpN_ge 50 dX0_settle_17 (by decide) (by omega) (by omega) (fun c17 => ?_) (fun c17 => ?_)
      · skip
        refine mx_vret dX0_settle_50 rfl (⟨⟨rfl, ?_, hfr⟩, rfl⟩)
        have hend : stS v A u fresh 21 x = stS v A u fresh i x := by
          by_cases e : i = 21
          · rw [e]
          · exact stS_up (fun j hj => mx_shr0 (by first | exact c24 | omega) hj) 21 hi
        rw [hend]; exact h1
      · skip
        refine mx_iload_n (i := 3) (hi := rfl) (hl := rfl) (hd := dX0_settle_20) ?_
        refine mx_iload (i := 4) (hl := rfl) (hd := dX0_settle_21) ?_
        refine mx_ishrN dX0_settle_23 (by omega) (by omega) ?_
        refine mx_ifN_eq 50 dX0_settle_24 (by decide) (mx_shr_lt (by omega)) (fun c24 => ?_) (fun c24 => ?_)
        · skip
          refine mx_vret dX0_settle_50 rfl (⟨⟨rfl, ?_, hfr⟩, rfl⟩)
          have hend : stS v A u fresh 21 x = stS v A u fresh i x := by
            by_cases e : i = 21
            · rw [e]
            · exact stS_up (fun j hj => mx_shr0 (by first | exact c24 | omega) hj) 21 hi
          rw [hend]; exact h1
        · skip
          refine mx_iload_n (i := 3) (hi := rfl) (hl := rfl) (hd := dX0_settle_27) ?_
          refine mx_iload (i := 4) (hl := rfl) (hd := dX0_settle_28) ?_
          refine mx_ishrN dX0_settle_30 (by omega) (by omega) ?_
          refine mx_iconstN 1 dX0_settle_31 (by decide) ?_
          refine mx_iandN dX0_settle_32 ?_
          refine mx_top (mx_bit _ _) ?_
          refine mx_ifB_eq 44 dX0_settle_33 (by decide) (fun c33 => ?_) (fun c33 => ?_)
          · skip
            refine mx_iincE (i := 4) (ls' := [some (.ref o), some (.ref q), some (.int (nI u)), some (.int (nI fresh)), some (.int (nI (i + 1)))]) 1 dX0_settle_44 rfl (by decide) (by decide) rfl rfl ?_
            refine mx_goto (tgt := 13) dX0_settle_47 (by decide) ?_
            exact ih (i + 1) _ (by omega) (by omega) (by rw [stS, if_neg c33]; exact h1) hfr
          · skip
            refine mx_aload_n (i := 0) (hi := rfl) (hl := rfl) (hd := dX0_settle_36) ?_
            refine mx_aload_n (i := 1) (hi := rfl) (hl := rfl) (hd := dX0_settle_37) ?_
            refine mx_iload_n (i := 2) (hi := rfl) (hl := rfl) (hd := dX0_settle_38) ?_
            refine mx_iload (i := 4) (hl := rfl) (hd := dX0_settle_39) ?_
            refine mx_callVi (ci := 0) (As := [.ref q, .int (nI u), .int (nI i)]) (rest := []) dX0_settle_41 (ct_goBack G I1 o hs0 q pt v A (he0.fr hfr (by omega) (by omega)) hd1 hd2 _ _ h1 (rwB_stS hRB i) u i hu (by omega)) km_X0_goBack rfl k_602 k_604 k_16 (by assumption) rfl rfl (Nat.le_of_ble_eq_true rfl) (by decide) (fun r1 I3 h2 => ?_)
            obtain ⟨e9, m1, m2⟩ := h2
            subst e9
            have m3 := hfr.tr m2
            refine mx_iincE (i := 4) (ls' := [some (.ref o), some (.ref q), some (.int (nI u)), some (.int (nI fresh)), some (.int (nI (i + 1)))]) 1 dX0_settle_44 rfl (by decide) (by decide) rfl rfl ?_
            refine mx_goto (tgt := 13) dX0_settle_47 (by decide) ?_
            exact ih (i + 1) _ (by omega) (by omega) (by rw [stS, if_pos c33]; exact m1) m3
  refine mx_aload_n (i := 0) (hi := rfl) (hl := rfl) (hd := dX0_settle_0) ?_
  refine mx_getR (ci := 0) (k := 1) (r := (o + 2)) dX0_settle_1 k_278 (by decide) rfl (by assumption) (by assumption) (by omega) ?_
  refine mx_iload_n (i := 2) (hi := rfl) (hl := rfl) (hd := dX0_settle_4) ?_
  refine mx_dup2 (hva := rfl) (hvb := rfl) (hd := dX0_settle_5) ?_
  refine mx_ialdV u (nI (st u)) dX0_settle_6 (by assumption) ⟨rfl, by omega, by omega⟩ (hst u (by omega)) ?_
  refine mx_iload_n (i := 3) (hi := rfl) (hl := rfl) (hd := dX0_settle_7) ?_
  refine mx_iorN dX0_settle_8 ?_
  refine mx_iast u dX0_settle_9 (by assumption) ⟨rfl, by omega, by omega⟩ ?_
  refine mx_iconstN 0 dX0_settle_10 (by decide) ?_
  refine mx_istoreE (i := 4) (ls' := [some (.ref o), some (.ref q), some (.int (nI u)), some (.int (nI fresh)), some (.int (nI 0))]) (hd := dX0_settle_11) (hn := by decide) (hok := rfl) (hls := rfl) ?_
  exact L13 _ 0 _ (Nat.lt_succ_self _) (by decide) ⟨hr0.o (by omega), (hst.u).c (fun j _ => by unfold seR; by_cases e : j = u <;> simp [e]), hww.o (by omega)⟩ ((mx_fr.rf _ _ _).u (by omega))

set_option maxHeartbeats 4000000 in
set_option maxRecDepth 100000 in
theorem ct_aimAt (G : mx_G) (I : mx_I) (o : Nat) (hs : oBP G o) (q pt : Nat) (v : Gr) (A : Pa) (he : env G I q pt v A) (hd1 : q + 5 ≤ o ∨ o + 5 ≤ q) (hd2 : pt + 5 ≤ o ∨ o + 5 ≤ pt) (r : Nat) (hr : r < gP v) : mx_CTi yX0_aimAt mX0_aimAt 5 [.ref o, .ref q, .int (nI r)] G I (fun rv I1 => rv = none ∧ arN I1 (o + 1) (aFin v A r).2.2.1 168 ∧ mx_fr I I1 o (o + 5)) := by
  refine mx_start (k := 4) (by decide) rfl rfl (fun h => nomatch h) (Nat.le_of_ble_eq_true rfl) ?_
  show mx_V mX0_aimAt mx_S0 5 0 0 0 [some (.ref o), some (.ref q), some (.int (nI r)), none, none, none, none] [] G I (fun rv Gz Iz => (fun rv I1 => rv = none ∧ arN I1 (o + 1) (aFin v A r).2.2.1 168 ∧ mx_fr I I1 o (o + 5)) rv Iz ∧ Gz = G) (fun _ _ _ => False)
  have he0 := he
  have hs0 := hs
  obtain ⟨hsq, hsp, hrp, hvq, hvp⟩ := he
  obtain ⟨hg0, ⟨hg2, hg3, hg4⟩, ⟨hg5, hg6, hg7⟩, ⟨hg8, hg9, hg10⟩, ⟨hg11, hg12, hg13⟩⟩ := hsq
  obtain ⟨⟨hP, hN, hb⟩, hv0, hv1, hF, hK, hT, hC⟩ := hvq
  obtain ⟨hp0, ⟨hp2, hp3, hp4⟩, ⟨hp5, hp6, hp7⟩, ⟨hp8, hp9, hp10⟩, ⟨hp11, hp12, hp13⟩⟩ := hsp
  obtain ⟨⟨hwL, hwA, hwB, hwE, hwc, hwz, hwx⟩, hu1, hu2, hu6, hCh, hA, hB, hE⟩ := hvp
  obtain ⟨ha0, ⟨ha1, ha2, ha3⟩, ⟨ha4, ha5, ha6⟩, ha7, hwh⟩ := hs
  have hwh0 := hwh
  obtain ⟨hw0, hw1, hw2, hw3⟩ := hwh
  have L22 : ∀ (fq : Nat) (level : Nat) (I1 : mx_I) (x : Ab), 1512 - level < fq → (level ≤ 1512) → (rwB x.2.2 ∧ x.1 ≤ 11) → (aFin v A r = aRun v A (1512 - level) level x) → (bpN I1 o x.2.1 x.2.2) → (mx_fr I I1 o (o + 5)) → mx_V mX0_aimAt mx_S0 5 0 0 22 [some (.ref o), some (.ref q), some (.int (nI r)), some (.int (nI x.1)), some (.int (nI level)), none, none] [] G I1 (fun rv Gz Iz => (fun rv I1 => rv = none ∧ arN I1 (o + 1) (aFin v A r).2.2.1 168 ∧ mx_fr I I1 o (o + 5)) rv Iz ∧ Gz = G) (fun _ _ _ => False) := by
    intro fq
    induction fq with
    | zero => intro level I1 x hfu; exact absurd hfu (Nat.not_lt_zero _)
    | succ fq ih =>
      intro level I1 x hfu hlv hok hfin h1 hfr
      have hx11 := hok.2
      have L42 : ∀ (fq : Nat) (u : Nat) (I2 : mx_I) (y : Ab), gP v - u < fq → (u ≤ gP v) → (level < 1512) → (x.1 < 10) → (rwB y.2.2 ∧ y.1 ≤ 11) → (y = aRow v A level u (x.1 + 1, x.2)) → (bpN I2 o y.2.1 y.2.2) → (mx_fr I I2 o (o + 5)) → mx_V mX0_aimAt mx_S0 5 0 0 42 [some (.ref o), some (.ref q), some (.int (nI r)), some (.int (nI y.1)), some (.int (nI level)), some (.int (nI u)), none] [] G I2 (fun rv Gz Iz => (fun rv I1 => rv = none ∧ arN I1 (o + 1) (aFin v A r).2.2.1 168 ∧ mx_fr I I1 o (o + 5)) rv Iz ∧ Gz = G) (fun _ _ _ => False) := by
        intro fq
        induction fq with
        | zero => intro u I2 y hfu; exact absurd hfu (Nat.not_lt_zero _)
        | succ fq ih2 =>
          intro u I2 y hfu hu hll hx10 hoky hy g1 gfr
          have hy11 := hoky.2
          refine mx_iload (i := 5) (hl := rfl) (hd := dX0_aimAt_42) ?_
          refine mx_aload_n (i := 1) (hi := rfl) (hl := rfl) (hd := dX0_aimAt_44) ?_
          refine mx_getV (ci := 6) (k := 0) (nI (gP v)) dX0_aimAt_45 k_164 (by decide) rfl (by assumption) (by rw [gfr _ (by omega)]; exact hv0) ?_
          refine mx_cmpN_ge 96 dX0_aimAt_48 (by decide) (by omega) (by omega) (fun c48 => ?_) (fun c48 => ?_)
          · skip
            refine mx_iincE (i := 4) (ls' := [some (.ref o), some (.ref q), some (.int (nI r)), some (.int (nI y.1)), some (.int (nI (level + 1))), some (.int (nI u)), none]) 1 dX0_aimAt_96 rfl (by decide) (by decide) rfl rfl ?_
            refine mx_goto (tgt := 22) dX0_aimAt_99 (by decide) ?_
            refine mx_leS (ls' := [some (.ref o), some (.ref q), some (.int (nI r)), some (.int (nI y.1)), some (.int (nI (level + 1))), none, none]) ⟨rfl, rfl, rfl, rfl, rfl, trivial⟩ ?_
            exact ih (level + 1) _ y (by omega) (by omega) hoky (by rw [hfin, show 1512 - level = (1512 - (level + 1)) + 1 by omega, aRun, if_pos hx10, show gP v = u by omega, ← hy]) g1 gfr
          · skip
            refine mx_aload_n (i := 0) (hi := rfl) (hl := rfl) (hd := dX0_aimAt_51) ?_
            refine mx_getR (ci := 0) (k := 2) (r := (o + 3)) dX0_aimAt_52 k_279 (by decide) rfl (by assumption) (by assumption) (by omega) ?_
            refine mx_iload (i := 4) (hl := rfl) (hd := dX0_aimAt_55) ?_
            refine mx_iload (i := 5) (hl := rfl) (hd := dX0_aimAt_57) ?_
            refine mx_callVi (ci := 8) (As := [.int (nI level), .int (nI u)]) (rest := []) dX0_aimAt_59 (ct_whDraw G I2 (o + 3) _ hwh0 g1.2.2 level u (by omega) (by omega)) km_X8_draw rfl k_597 k_555 k_556 (by assumption) rfl rfl (Nat.le_of_ble_eq_true rfl) (by decide) (fun r1 I3 h2 => ?_)
            obtain ⟨e9, k2, k3⟩ := h2
            subst e9
            have k4 : mx_fr I I3 o (o + 5) := gfr.tr (k3.wk (by omega) (by omega))
            have k5 : bpN I3 o y.2.1 (y.2.2.1, whD y.2.2.2 level u) := ⟨g1.1.f k3 (by omega), g1.2.1.f k3 (by omega), k2⟩
            refine mx_aload_n (i := 0) (hi := rfl) (hl := rfl) (hd := dX0_aimAt_62) ?_
            refine mx_getR (ci := 0) (k := 1) (r := (o + 2)) dX0_aimAt_63 k_278 (by decide) rfl (by assumption) (by assumption) (by omega) ?_
            refine mx_iload (i := 5) (hl := rfl) (hd := dX0_aimAt_66) ?_
            refine mx_ialdV u (nI (y.2.1 u)) dX0_aimAt_68 (by assumption) ⟨rfl, by omega, by omega⟩ ((g1.2.1.f k3 (by omega)) u (by omega)) ?_
            refine mx_iconst (v := (-1)) (by decide) dX0_aimAt_69 ?_
            refine mx_ixor dX0_aimAt_70 ?_
            refine mx_iand dX0_aimAt_71 ?_
            refine mx_top (y := nI (mx_wo (y.2.2.2 (level % 10 * 8 + u)) (y.2.1 u))) (nI_wo _ _) ?_
            refine mx_istoreE (i := 6) (ls' := [some (.ref o), some (.ref q), some (.int (nI r)), some (.int (nI y.1)), some (.int (nI level)), some (.int (nI u)), some (.int (nI (mx_wo (y.2.2.2 (level % 10 * 8 + u)) (y.2.1 u))))]) (hd := dX0_aimAt_72) (hn := by decide) (hok := rfl) (hls := rfl) ?_
            refine mx_iload (i := 6) (hl := rfl) (hd := dX0_aimAt_74) ?_
            refine mx_ifN_eq 90 dX0_aimAt_76 (by decide) (by have := mx_wo_lt (b := y.2.1 u) (hoky.1.2 (level % 10 * 8 + u)); omega) (fun c76 => ?_) (fun c76 => ?_)
            · skip
              refine mx_iincE (i := 5) (ls' := [some (.ref o), some (.ref q), some (.int (nI r)), some (.int (nI y.1)), some (.int (nI level)), some (.int (nI (u + 1))), some (.int (nI (mx_wo (y.2.2.2 (level % 10 * 8 + u)) (y.2.1 u))))]) 1 dX0_aimAt_90 rfl (by decide) (by decide) rfl rfl ?_
              refine mx_goto (tgt := 42) dX0_aimAt_93 (by decide) ?_
              refine mx_leS (ls' := [some (.ref o), some (.ref q), some (.int (nI r)), some (.int (nI y.1)), some (.int (nI level)), some (.int (nI (u + 1))), none]) ⟨rfl, rfl, rfl, rfl, rfl, rfl, trivial⟩ ?_
              exact ih2 (u + 1) _ (y.1, y.2.1, y.2.2.1, whD y.2.2.2 level u) (by omega) (by omega) hll hx10 (by have h9 := rwB.row1 (v := v) (A := A) (lv := level) (u := u) hoky; unfold aRow1 at h9; rw [if_pos c76] at h9; exact h9) (by rw [aRow, ← hy, aRow1, if_pos c76]) k5 k4
            · skip
              refine mx_iconstN 0 dX0_aimAt_79 (by decide) ?_
              refine mx_istoreE_n (i := 3) (ls' := [some (.ref o), some (.ref q), some (.int (nI r)), some (.int (nI 0)), some (.int (nI level)), some (.int (nI u)), some (.int (nI (mx_wo (y.2.2.2 (level % 10 * 8 + u)) (y.2.1 u))))]) (hi := rfl) (hd := dX0_aimAt_80) (hn := by decide) (hok := rfl) (hls := rfl) ?_
              refine mx_aload_n (i := 0) (hi := rfl) (hl := rfl) (hd := dX0_aimAt_81) ?_
              refine mx_aload_n (i := 1) (hi := rfl) (hl := rfl) (hd := dX0_aimAt_82) ?_
              refine mx_iload (i := 5) (hl := rfl) (hd := dX0_aimAt_83) ?_
              refine mx_iload (i := 6) (hl := rfl) (hd := dX0_aimAt_85) ?_
              refine mx_callVi (ci := 0) (As := [.ref q, .int (nI u), .int (nI (mx_wo (y.2.2.2 (level % 10 * 8 + u)) (y.2.1 u)))]) (rest := []) dX0_aimAt_87 (ct_bpSettle G I3 o hs0 q pt v A (he0.fr k4 (by omega) (by omega)) hd1 hd2 _ _ k5 ⟨hoky.1.1, whD_lt hoky.1.2 level u⟩ u (mx_wo (y.2.2.2 (level % 10 * 8 + u)) (y.2.1 u)) (by omega) (mx_wo_lt (hoky.1.2 _))) km_X0_settle rfl k_598 k_600 k_15 (by assumption) rfl rfl (Nat.le_of_ble_eq_true rfl) (by decide) (fun r3 I4 h4 => ?_)
              obtain ⟨e9, m4, m5⟩ := h4
              subst e9
              have m6 := k4.tr m5
              refine mx_iincE (i := 5) (ls' := [some (.ref o), some (.ref q), some (.int (nI r)), some (.int (nI 0)), some (.int (nI level)), some (.int (nI (u + 1))), some (.int (nI (mx_wo (y.2.2.2 (level % 10 * 8 + u)) (y.2.1 u))))]) 1 dX0_aimAt_90 rfl (by decide) (by decide) rfl rfl ?_
              refine mx_goto (tgt := 42) dX0_aimAt_93 (by decide) ?_
              refine mx_leS (ls' := [some (.ref o), some (.ref q), some (.int (nI r)), some (.int (nI 0)), some (.int (nI level)), some (.int (nI (u + 1))), none]) ⟨rfl, rfl, rfl, rfl, rfl, rfl, trivial⟩ ?_
              exact ih2 (u + 1) _ (0, seR y.2.1 u (mx_wo (y.2.2.2 (level % 10 * 8 + u)) (y.2.1 u)), stS v A u (mx_wo (y.2.2.2 (level % 10 * 8 + u)) (y.2.1 u)) 21 (y.2.2.1, whD y.2.2.2 level u)) (by omega) (by omega) hll hx10 (by have h9 := rwB.row1 (v := v) (A := A) (lv := level) (u := u) hoky; unfold aRow1 at h9; rw [if_neg c76] at h9; exact h9) (by rw [aRow, ← hy, aRow1, if_neg c76]) m4 m6
      refine mx_iload (i := 4) (hl := rfl) (hd := dX0_aimAt_22) ?_
      refine mx_sipushN 1512 dX0_aimAt_24 (by decide) ?_
      refine mx_cmpN_ge 102 dX0_aimAt_27 (by decide) (by omega) (by omega) (fun c27 => ?_) (fun c27 => ?_)
      · skip
        have hres : x = aFin v A r := by
          rw [hfin]
          by_cases hl : level < 1512
          · rw [show 1512 - level = (1512 - (level + 1)) + 1 by omega, aRun, if_neg (by omega)]
          · rw [show 1512 - level = 0 by omega, aRun]
        exact mx_vret dX0_aimAt_102 rfl (⟨⟨rfl, hres ▸ h1.1, hfr⟩, rfl⟩)
      · skip
        refine mx_iload_n (i := 3) (hi := rfl) (hl := rfl) (hd := dX0_aimAt_30) ?_
        refine mx_bipushN 10 dX0_aimAt_31 (by decide) ?_
        refine mx_cmpN_ge 102 dX0_aimAt_33 (by decide) (by omega) (by omega) (fun c33 => ?_) (fun c33 => ?_)
        · skip
          have hres : x = aFin v A r := by
            rw [hfin]
            by_cases hl : level < 1512
            · rw [show 1512 - level = (1512 - (level + 1)) + 1 by omega, aRun, if_neg (by omega)]
            · rw [show 1512 - level = 0 by omega, aRun]
          exact mx_vret dX0_aimAt_102 rfl (⟨⟨rfl, hres ▸ h1.1, hfr⟩, rfl⟩)
        · skip
          refine mx_iincE (i := 3) (ls' := [some (.ref o), some (.ref q), some (.int (nI r)), some (.int (nI (x.1 + 1))), some (.int (nI level)), none, none]) 1 dX0_aimAt_36 rfl (by decide) (by decide) rfl rfl ?_
          refine mx_iconstN 0 dX0_aimAt_39 (by decide) ?_
          refine mx_istoreE (i := 5) (ls' := [some (.ref o), some (.ref q), some (.int (nI r)), some (.int (nI (x.1 + 1))), some (.int (nI level)), some (.int (nI 0)), none]) (hd := dX0_aimAt_40) (hn := by decide) (hok := rfl) (hls := rfl) ?_
          exact L42 _ 0 I1 (x.1 + 1, x.2) (Nat.lt_succ_self _) (Nat.zero_le _) (by omega) (by omega) ⟨hok.1, by show x.1 + 1 ≤ 11; omega⟩ rfl h1 hfr
  refine mx_aload_n (i := 0) (hi := rfl) (hl := rfl) (hd := dX0_aimAt_0) ?_
  refine mx_callVi (ci := 0) (As := []) (rest := []) dX0_aimAt_1 (ct_bpReset G I o hs0) km_X0_reset rfl k_586 k_588 k_13 (by assumption) rfl rfl (Nat.le_of_ble_eq_true rfl) (by decide) (fun r5 I2 h6 => ?_)
  obtain ⟨e9, hq1, hq2⟩ := h6
  subst e9
  refine mx_aload_n (i := 0) (hi := rfl) (hl := rfl) (hd := dX0_aimAt_4) ?_
  refine mx_iload_n (i := 2) (hi := rfl) (hl := rfl) (hd := dX0_aimAt_5) ?_
  refine mx_aload_n (i := 1) (hi := rfl) (hl := rfl) (hd := dX0_aimAt_6) ?_
  refine mx_getR (ci := 6) (k := 6) (r := pt) dX0_aimAt_7 k_192 (by decide) rfl (by assumption) (by assumption) (by omega) ?_
  refine mx_getV (ci := 2) (k := 6) (nI (pAc A)) dX0_aimAt_10 k_95 (by decide) rfl (by assumption) (by rw [hq2 _ (by omega)]; exact hu6) ?_
  refine mx_iconstN 0 dX0_aimAt_13 (by decide) ?_
  refine mx_callVi (ci := 0) (As := [.int (nI r), .int (nI (pAc A)), .int (nI 0)]) (rest := []) dX0_aimAt_14 (ct_offer G I2 o hs0 _ _ hq1 ⟨fun _ => Nat.le_refl _, fun _ => Nat.two_pow_pos 21⟩ r (pAc A) 0 (by omega) hwc (by decide)) km_X0_offer rfl k_592 k_594 k_14 (by assumption) rfl rfl (Nat.le_of_ble_eq_true rfl) (by decide) (fun r7 I3 h8 => ?_)
  obtain ⟨e9, m1, m2⟩ := h8
  subst e9
  have m3 := hq2.tr m2
  refine mx_iconstN 0 dX0_aimAt_17 (by decide) ?_
  refine mx_istoreE_n (i := 3) (ls' := [some (.ref o), some (.ref q), some (.int (nI r)), some (.int (nI 0)), none, none, none]) (hi := rfl) (hd := dX0_aimAt_18) (hn := by decide) (hok := rfl) (hls := rfl) ?_
  refine mx_iconstN 0 dX0_aimAt_19 (by decide) ?_
  refine mx_istoreE (i := 4) (ls' := [some (.ref o), some (.ref q), some (.int (nI r)), some (.int (nI 0)), some (.int (nI 0)), none, none]) (hd := dX0_aimAt_20) (hn := by decide) (hok := rfl) (hls := rfl) ?_
  exact L22 _ 0 _ (aIni A r) (Nat.lt_succ_self _) (by decide) ⟨rwB.ini A r, Nat.zero_le _⟩ rfl m1 m3
