/-! THE CLASS Search: costs, reached, the wheel -/
/-- a graph at q with its pattern at pt -/
def env (G : mx_G) (I : mx_I) (q pt : Nat) (v : Gr) (A : Pa) : Prop := oST G q ∧ oPT G pt ∧ mx_rf G q 6 = pt ∧ stN I q v ∧ ptN I pt A
theorem env.fr {G : mx_G} {I I' : mx_I} {q pt lo hi : Nat} {v : Gr} {A : Pa} (h : env G I q pt v A) (f : mx_fr I I' lo hi) (d1 : q + 5 ≤ lo ∨ hi ≤ q) (d2 : pt + 5 ≤ lo ∨ hi ≤ pt) : env G I' q pt v A := ⟨h.1, h.2.1, h.2.2.1, h.2.2.2.1.fr f d1, h.2.2.2.2.fr f d2⟩
def pEn (A : Pa) (d k : Nat) : Nat := pE A (d * 4 + k)
theorem pEn_lt {A : Pa} (h : wfP A) {d k : Nat} (hd : d < 2) (hk : k < 4) : pEn A d k < 2 ^ 21 := h.2.2.2.1 _ (by omega)
theorem pFol_lt {A : Pa} (h : wfP A) (ps : Nat) : pFol A ps < 2 ^ 21 := orF_lt h.2.1 21 (Nat.le_refl _)
def oSE (G : mx_G) (o : Nat) : Prop := mx_tg G o = 15 ∧ (mx_rf G o 0 = o + 1 ∧ mx_tg G (o + 1) = 1 ∧ mx_ln G (o + 1) = 8) ∧ (mx_rf G o 3 = o + 2 ∧ mx_tg G (o + 2) = 1 ∧ mx_ln G (o + 2) = 8) ∧ mx_rf G o 4 = o + 3 ∧ oWH G (o + 3)
def csN (I : mx_I) (a : Nat) (cs : Nat → Option Nat) (n : Nat) : Prop := ∀ u, u < n → I a u = oI (cs u)
def seN (I : mx_I) (o bl : Nat) (cs : Nat → Option Nat) (rc w : Nat → Nat) : Prop := I o 5 = nI bl ∧ csN I (o + 1) cs 8 ∧ arN I (o + 2) rc 8 ∧ arN I (o + 4) w 80
theorem csN.o {I : mx_I} {a b n k : Nat} {x : Int32} {cs : Nat → Option Nat} (h : csN I a cs n) (hne : a ≠ b) : csN (mx_u I b k x) a cs n := by
  intro s hs
  rw [mx_u_at, if_neg (fun q => hne q.1)]
  exact h s hs
theorem csN.u {I : mx_I} {a n k : Nat} {x : Option Nat} {cs : Nat → Option Nat} (h : csN I a cs n) : csN (mx_u I a k (oI x)) a (fun s => if s = k then x else cs s) n := by
  intro s hs
  rw [mx_u_at]
  by_cases e : s = k
  · rw [if_pos ⟨rfl, e⟩]; simp [e]
  · rw [if_neg (fun q => e q.2), h s hs]; simp [e]
theorem csN.up {I : mx_I} {a n : Nat} {x : Option Nat} {cs : Nat → Option Nat} (h : csN I a cs n) : csN (mx_u I a n (oI x)) a (fun s => if s = n then x else cs s) (n + 1) := by
  intro s hs
  rw [mx_u_at]
  by_cases e : s = n
  · rw [if_pos ⟨rfl, e⟩]; simp [e]
  · rw [if_neg (fun q => e q.2), h s (by omega)]; simp [e]
theorem csN.c {I : mx_I} {a n : Nat} {g g' : Nat → Option Nat} (h : csN I a g n) (e : ∀ s, s < n → g s = g' s) : csN I a g' n := fun s hs => by rw [h s hs, e s hs]
theorem csN.f {I I' : mx_I} {a n lo hi : Nat} {g : Nat → Option Nat} (h : csN I a g n) (f : mx_fr I I' lo hi) (d : a < lo ∨ hi ≤ a) : csN I' a g n := fun s hs => by rw [f a d]; exact h s hs
theorem seN.fr {I I' : mx_I} {o bl lo hi : Nat} {cs : Nat → Option Nat} {rc w : Nat → Nat} (h : seN I o bl cs rc w) (f : mx_fr I I' lo hi) (d : o + 5 ≤ lo ∨ hi ≤ o) : seN I' o bl cs rc w := by
  obtain ⟨h1, h2, h3, h4⟩ := h
  exact ⟨by rw [f o (by omega)]; exact h1, h2.f f (by omega), h3.f f (by omega), h4.f f (by omega)⟩
def kp (I I1 : mx_I) (o : Nat) : Prop := I1 o 1 = I o 1 ∧ I1 o 2 = I o 2
theorem kp.rf (I : mx_I) (o : Nat) : kp I I o := ⟨rfl, rfl⟩
theorem kp.u {I I1 : mx_I} {o a k : Nat} {x : Int32} (h : kp I I1 o) (hne : o ≠ a) : kp I (mx_u I1 a k x) o := by
  refine ⟨?_, ?_⟩
  · rw [mx_u_at, if_neg (fun q => hne q.1)]; exact h.1
  · rw [mx_u_at, if_neg (fun q => hne q.1)]; exact h.2
theorem kp.fr {I I1 I2 : mx_I} {o lo hi : Nat} (h : kp I I1 o) (f : mx_fr I1 I2 lo hi) (d : o < lo ∨ hi ≤ o) : kp I I2 o := by
  refine ⟨?_, ?_⟩
  · rw [f o d]; exact h.1
  · rw [f o d]; exact h.2
theorem kp.tr {I I1 I2 : mx_I} {o : Nat} (h : kp I I1 o) (k : kp I1 I2 o) : kp I I2 o := ⟨k.1.trans h.1, k.2.trans h.2⟩
def seC (A : Pa) (cs : Nat → Option Nat) (u fresh level : Nat) : Nat → Option Nat := fun x => if x = u ∧ cs u = none ∧ ¬ fresh &&& pAc A = 0 then some level else cs x
def seR (rc : Nat → Nat) (u fresh : Nat) : Nat → Nat := fun x => if x = u then rc u ||| fresh else rc x
def seWa (v : Gr) (A : Pa) (bl nx u level s : Nat) (w : Nat → Nat) : Nat → Nat := if gF v s = u ∧ ¬ bl.testBit s = true then whP w (level + gC v s) (gT v s) (nx &&& pEn A 0 (gK v s)) else w
def seWb (v : Gr) (A : Pa) (bl nx u level s : Nat) (w : Nat → Nat) : Nat → Nat := if gT v s = u ∧ ¬ bl.testBit s = true then whP w (level + gC v s) (gF v s) (nx &&& pEn A 1 (gK v s)) else w
def seW (v : Gr) (A : Pa) (bl nx u level : Nat) (w : Nat → Nat) : Nat → Nat → Nat
  | 0 => w
  | s + 1 => seWb v A bl nx u level s (seWa v A bl nx u level s (seW v A bl nx u level w s))

set_option maxHeartbeats 4000000 in
set_option maxRecDepth 100000 in
theorem ct_enter (G : mx_G) (I : mx_I) (q pt : Nat) (v : Gr) (A : Pa) (he : env G I q pt v A) (ps s dr : Nat) (hs : s < gN v) (hdr : dr < 2) : mx_CTp yX6_enter mX6_enter 1 [.ref q, .int (nI ps), .int (nI s), .int (nI dr)] G I (some (.int (nI (ps &&& pEn A dr (gK v s))))) := by
  refine mx_start (k := 0) (by decide) rfl rfl (fun h => nomatch h) (Nat.le_of_ble_eq_true rfl) ?_
  show mx_V mX6_enter mx_S0 1 0 0 0 [some (.ref q), some (.int (nI ps)), some (.int (nI s)), some (.int (nI dr))] [] G I (fun rv Gz Iz => rv = some (.int (nI (ps &&& pEn A dr (gK v s)))) ∧ Gz = G ∧ Iz = I) (fun _ _ _ => False)
  obtain ⟨hsq, hsp, hrp, hvq, hvp⟩ := he
  obtain ⟨hg0, ⟨hg2, hg3, hg4⟩, ⟨hg5, hg6, hg7⟩, ⟨hg8, hg9, hg10⟩, ⟨hg11, hg12, hg13⟩⟩ := hsq
  obtain ⟨⟨hP, hN, hb⟩, hv0, hv1, hF, hK, hT, hC⟩ := hvq
  obtain ⟨hp0, ⟨hp2, hp3, hp4⟩, ⟨hp5, hp6, hp7⟩, ⟨hp8, hp9, hp10⟩, ⟨hp11, hp12, hp13⟩⟩ := hsp
  obtain ⟨⟨hwL, hwA, hwB, hwE, hwc, hwz, hwx⟩, hu1, hu2, hu6, hCh, hA, hB, hE⟩ := hvp
  have hk4 := (hb s hs).2.1
  refine mx_iload_n (i := 1) (hi := rfl) (hl := rfl) (hd := dX6_enter_0) ?_
  refine mx_aload_n (i := 0) (hi := rfl) (hl := rfl) (hd := dX6_enter_1) ?_
  refine mx_getR (ci := 6) (k := 6) (r := pt) dX6_enter_2 k_191 (by decide) rfl (by assumption) (by assumption) (by omega) ?_
  refine mx_getR (ci := 2) (k := 5) (r := (pt + 4)) dX6_enter_5 k_93 (by decide) rfl (by assumption) (by assumption) (by omega) ?_
  refine mx_iload_n (i := 3) (hi := rfl) (hl := rfl) (hd := dX6_enter_8) ?_
  refine mx_iconstN 4 dX6_enter_9 (by decide) ?_
  refine mx_imulN dX6_enter_10 ?_
  refine mx_aload_n (i := 0) (hi := rfl) (hl := rfl) (hd := dX6_enter_11) ?_
  refine mx_getR (ci := 6) (k := 3) (r := (q + 2)) dX6_enter_12 k_178 (by decide) rfl (by assumption) (by assumption) (by omega) ?_
  refine mx_iload_n (i := 2) (hi := rfl) (hl := rfl) (hd := dX6_enter_15) ?_
  refine mx_ialdV s (nI (gK v s)) dX6_enter_16 (by assumption) ⟨rfl, by omega, by omega⟩ (hK s (by omega)) ?_
  refine mx_iaddN dX6_enter_17 ?_
  refine mx_ialdV ((dr * 4) + (gK v s)) (nI (pE A ((dr * 4) + (gK v s)))) dX6_enter_18 (by assumption) ⟨rfl, by omega, by omega⟩ (hE ((dr * 4) + (gK v s)) (by omega)) ?_
  refine mx_iandN dX6_enter_19 ?_
  exact mx_iret dX6_enter_20 rfl rfl (⟨rfl, rfl, rfl⟩)

set_option maxHeartbeats 4000000 in
set_option maxRecDepth 100000 in
theorem ct_isBlocked (G : mx_G) (I : mx_I) (o bl s : Nat) (ht : mx_tg G o = 15) (hv : I o 5 = nI bl) (hbl : bl < 2 ^ 31) (hs : s < 32) : mx_CTp yX5_isBlocked mX5_isBlocked 1 [.ref o, .int (nI s)] G I (some (.int (mx_b (decide (bl.testBit s = true))))) := by
  refine mx_start (k := 0) (by decide) rfl rfl (fun h => nomatch h) (Nat.le_of_ble_eq_true rfl) ?_
  show mx_V mX5_isBlocked mx_S0 1 0 0 0 [some (.ref o), some (.int (nI s))] [] G I (fun rv Gz Iz => rv = some (.int (mx_b (decide (bl.testBit s = true)))) ∧ Gz = G ∧ Iz = I) (fun _ _ _ => False)
  refine mx_aload_n (i := 0) (hi := rfl) (hl := rfl) (hd := dX5_isBlocked_0) ?_
  refine mx_getV (ci := 5) (k := 5) (nI bl) dX5_isBlocked_1 k_255 (by decide) rfl (by assumption) hv ?_
  refine mx_iload_n (i := 1) (hi := rfl) (hl := rfl) (hd := dX5_isBlocked_4) ?_
  refine mx_ishrN dX5_isBlocked_5 (by omega) (by omega) ?_
  refine mx_iconstN 1 dX5_isBlocked_6 (by decide) ?_
  refine mx_iandN dX5_isBlocked_7 ?_
  refine mx_top (mx_bit _ _) ?_
  refine mx_ifB_eq 15 dX5_isBlocked_8 (by decide) (fun c8 => ?_) (fun c8 => ?_)
  · skip
    refine mx_iconstN 0 dX5_isBlocked_15 (by decide) ?_
    exact mx_iret dX5_isBlocked_16 rfl (by decide) (⟨congrArg (fun z => some (Value.int z)) (mx_bF (by first | exact c8 | exact fun q => q c8)), rfl, rfl⟩)
  · skip
    refine mx_iconstN 1 dX5_isBlocked_11 (by decide) ?_
    refine mx_goto (tgt := 16) dX5_isBlocked_12 (by decide) ?_
    exact mx_iret dX5_isBlocked_16 rfl (by decide) (⟨congrArg (fun z => some (Value.int z)) (mx_bT (by first | exact c8 | exact fun q => q c8)), rfl, rfl⟩)

set_option maxHeartbeats 4000000 in
set_option maxRecDepth 100000 in
theorem ct_seReset (G : mx_G) (I : mx_I) (o bl : Nat) (hs : oSE G o) : mx_CTi yX5_reset mX5_reset 2 [.ref o, .int (nI bl)] G I (fun rv I1 => rv = none ∧ seN I1 o bl (fun _ => none) (fun _ => 0) (fun _ => 0) ∧ mx_fr I I1 o (o + 5) ∧ kp I I1 o) := by
  refine mx_start (k := 1) (by decide) rfl rfl (fun h => nomatch h) (Nat.le_of_ble_eq_true rfl) ?_
  show mx_V mX5_reset mx_S0 2 0 0 0 [some (.ref o), some (.int (nI bl)), none] [] G I (fun rv Gz Iz => (fun rv I1 => rv = none ∧ seN I1 o bl (fun _ => none) (fun _ => 0) (fun _ => 0) ∧ mx_fr I I1 o (o + 5) ∧ kp I I1 o) rv Iz ∧ Gz = G) (fun _ _ _ => False)
  obtain ⟨ha0, ⟨ha1, ha2, ha3⟩, ⟨ha4, ha5, ha6⟩, ha7, hwh⟩ := hs
  have hwh0 := hwh
  obtain ⟨hw0, hw1, hw2, hw3⟩ := hwh
  have L14 : ∀ (fq : Nat) (i : Nat) (I1 : mx_I), 8 - i < fq → (i ≤ 8) → (I1 o 5 = nI bl) → (csN I1 (o + 1) (fun _ => none) i) → (arN I1 (o + 2) (fun _ => 0) i) → (arN I1 (o + 4) (fun _ => 0) 80) → (mx_fr I I1 o (o + 5)) → (kp I I1 o) → mx_V mX5_reset mx_S0 2 0 0 14 [some (.ref o), some (.int (nI bl)), some (.int (nI i))] [] G I1 (fun rv Gz Iz => (fun rv I1 => rv = none ∧ seN I1 o bl (fun _ => none) (fun _ => 0) (fun _ => 0) ∧ mx_fr I I1 o (o + 5) ∧ kp I I1 o) rv Iz ∧ Gz = G) (fun _ _ _ => False) := by
    intro fq
    induction fq with
    | zero => intro i I1 hfu; exact absurd hfu (Nat.not_lt_zero _)
    | succ fq ih =>
      intro i I1 hfu hi h5 a1 a2 a4 hfr hkp
      refine mx_iload_n (i := 2) (hi := rfl) (hl := rfl) (hd := dX5_reset_14) ?_
      refine mx_bipushN 8 dX5_reset_15 (by decide) ?_
      refine mx_cmpN_ge 41 dX5_reset_17 (by decide) (by omega) (by omega) (fun c17 => ?_) (fun c17 => ?_)
      · skip
        refine mx_vret dX5_reset_41 rfl (⟨⟨rfl, ⟨h5, ?_, ?_, a4⟩, hfr, hkp⟩, rfl⟩)
        all_goals (have e8 : i = 8 := by omega)
        · subst e8; exact a1
        · subst e8; exact a2
      · skip
        refine mx_aload_n (i := 0) (hi := rfl) (hl := rfl) (hd := dX5_reset_20) ?_
        refine mx_getR (ci := 5) (k := 0) (r := (o + 1)) dX5_reset_21 k_247 (by decide) rfl (by assumption) (by assumption) (by omega) ?_
        refine mx_iload_n (i := 2) (hi := rfl) (hl := rfl) (hd := dX5_reset_24) ?_
        refine mx_bipush (v := (-9)) (by decide) dX5_reset_25 ?_
        refine mx_iast i dX5_reset_27 (by assumption) ⟨rfl, by omega, by omega⟩ ?_
        refine mx_aload_n (i := 0) (hi := rfl) (hl := rfl) (hd := dX5_reset_28) ?_
        refine mx_getR (ci := 5) (k := 3) (r := (o + 2)) dX5_reset_29 k_253 (by decide) rfl (by assumption) (by assumption) (by omega) ?_
        refine mx_iload_n (i := 2) (hi := rfl) (hl := rfl) (hd := dX5_reset_32) ?_
        refine mx_iconstN 0 dX5_reset_33 (by decide) ?_
        refine mx_iast i dX5_reset_34 (by assumption) ⟨rfl, by omega, by omega⟩ ?_
        refine mx_iincE (i := 2) (ls' := [some (.ref o), some (.int (nI bl)), some (.int (nI (i + 1)))]) 1 dX5_reset_35 rfl (by decide) (by decide) rfl rfl ?_
        refine mx_goto (tgt := 14) dX5_reset_38 (by decide) ?_
        exact ih (i + 1) _ (by omega) (by omega) (by rw [mx_u_at, if_neg (by omega), mx_u_at, if_neg (by omega)]; exact h5) (((csN.up (x := none) a1).o (by omega)).c (fun j _ => by by_cases e : j = i <;> simp [e])) (((a2.o (by omega)).up).c (fun j _ => by by_cases e : j = i <;> simp [e])) ((a4.o (by omega)).o (by omega)) ((hfr.u (by omega)).u (by omega)) ((hkp.u (by omega)).u (by omega))
  refine mx_aload_n (i := 0) (hi := rfl) (hl := rfl) (hd := dX5_reset_0) ?_
  refine mx_iload_n (i := 1) (hi := rfl) (hl := rfl) (hd := dX5_reset_1) ?_
  refine mx_putI (ci := 5) (k := 5) dX5_reset_2 k_255 (by decide) rfl rfl rfl rfl (by assumption) ?_
  refine mx_aload_n (i := 0) (hi := rfl) (hl := rfl) (hd := dX5_reset_5) ?_
  refine mx_getR (ci := 5) (k := 4) (r := (o + 3)) dX5_reset_6 k_254 (by decide) rfl (by assumption) (by assumption) (by omega) ?_
  refine mx_callVi (ci := 8) (As := []) (rest := []) dX5_reset_9 (ct_whClear G _ (o + 3) hwh0) km_X8_clear rfl k_546 k_547 k_548 (by assumption) rfl rfl (Nat.le_of_ble_eq_true rfl) (by decide) (fun r1 I2 h2 => ?_)
  obtain ⟨e9, hq1, hq2⟩ := h2
  subst e9
  have hfr2 : mx_fr I I2 o (o + 5) := ((mx_fr.rf _ _ _).u (by omega)).tr (hq2.wk (by omega) (by omega))
  have hb2 : I2 o 5 = nI bl := by rw [hq2 o (by omega), mx_u_at, if_pos ⟨rfl, rfl⟩]
  have hkp2 : kp I I2 o := kp.fr ⟨by rw [mx_u_at, if_neg (by omega)], by rw [mx_u_at, if_neg (by omega)]⟩ hq2 (by omega)
  refine mx_iconstN 0 dX5_reset_12 (by decide) ?_
  refine mx_istoreE_n (i := 2) (ls' := [some (.ref o), some (.int (nI bl)), some (.int (nI 0))]) (hi := rfl) (hd := dX5_reset_13) (hn := by decide) (hok := rfl) (hls := rfl) ?_
  exact L14 _ 0 _ (Nat.lt_succ_self _) (by decide) hb2 (fun s hs => absurd hs (Nat.not_lt_zero _)) (fun s hs => absurd hs (Nat.not_lt_zero _)) hq1 hfr2 hkp2

set_option maxHeartbeats 4000000 in
set_option maxRecDepth 100000 in
theorem ct_seSettle (G : mx_G) (I : mx_I) (o bl : Nat) (cs : Nat → Option Nat) (rc w : Nat → Nat) (hs : oSE G o) (hv : seN I o bl cs rc w) (q pt : Nat) (v : Gr) (A : Pa) (he : env G I q pt v A) (hd1 : q + 5 ≤ o ∨ o + 5 ≤ q) (hd2 : pt + 5 ≤ o ∨ o + 5 ≤ pt) (u fresh level : Nat) (hu : u < 8) (hfs : fresh < 2 ^ 21) (hlv : level < 2 ^ 30) (hbl31 : bl < 2 ^ 31) (hcb : ∀ x, x < 8 → ∀ z, cs x = some z → z < 2 ^ 31) : mx_CTi yX5_settle mX5_settle 2 [.ref o, .ref q, .int (nI u), .int (nI fresh), .int (nI level)] G I (fun rv I1 => rv = none ∧ seN I1 o bl (seC A cs u fresh level) (seR rc u fresh) (seW v A bl (pFol A fresh) u level w (gN v)) ∧ mx_fr I I1 o (o + 5) ∧ kp I I1 o) := by
  refine mx_start (k := 2) (by decide) rfl rfl (fun h => nomatch h) (Nat.le_of_ble_eq_true rfl) ?_
  show mx_V mX5_settle mx_S0 2 0 0 0 [some (.ref o), some (.ref q), some (.int (nI u)), some (.int (nI fresh)), some (.int (nI level)), none, none] [] G I (fun rv Gz Iz => (fun rv I1 => rv = none ∧ seN I1 o bl (seC A cs u fresh level) (seR rc u fresh) (seW v A bl (pFol A fresh) u level w (gN v)) ∧ mx_fr I I1 o (o + 5) ∧ kp I I1 o) rv Iz ∧ Gz = G) (fun _ _ _ => False)
  have he0 := he
  have hwp := he.2.2.2.2.1
  obtain ⟨hsq, hsp, hrp, hvq, hvp⟩ := he
  have hsp0 := hsp
  have hvp0 := hvp
  obtain ⟨hg0, ⟨hg2, hg3, hg4⟩, ⟨hg5, hg6, hg7⟩, ⟨hg8, hg9, hg10⟩, ⟨hg11, hg12, hg13⟩⟩ := hsq
  obtain ⟨⟨hP, hN, hb⟩, hv0, hv1, hF, hK, hT, hC⟩ := hvq
  obtain ⟨hp0, ⟨hp2, hp3, hp4⟩, ⟨hp5, hp6, hp7⟩, ⟨hp8, hp9, hp10⟩, ⟨hp11, hp12, hp13⟩⟩ := hsp
  obtain ⟨⟨hwL, hwA, hwB, hwE, hwc, hwz, hwx⟩, hu1, hu2, hu6, hCh, hA, hB, hE⟩ := hvp
  obtain ⟨ha0, ⟨ha1, ha2, ha3⟩, ⟨ha4, ha5, ha6⟩, ha7, hwh⟩ := hs
  have hwh0 := hwh
  obtain ⟨hw0, hw1, hw2, hw3⟩ := hwh
  obtain ⟨hbl, hcs, hrc, hww⟩ := hv
  have L53 : ∀ (fq : Nat) (s : Nat) (I1 : mx_I), gN v - s < fq → (s ≤ gN v) → (I1 o 5 = nI bl) → (csN I1 (o + 1) (seC A cs u fresh level) 8) → (arN I1 (o + 2) (seR rc u fresh) 8) → (arN I1 (o + 4) (seW v A bl (pFol A fresh) u level w s) 80) → (mx_fr I I1 o (o + 5)) → (kp I I1 o) → mx_V mX5_settle mx_S0 2 0 0 53 [some (.ref o), some (.ref q), some (.int (nI u)), some (.int (nI fresh)), some (.int (nI level)), some (.int (nI (pFol A fresh))), some (.int (nI s))] [] G I1 (fun rv Gz Iz => (fun rv I1 => rv = none ∧ seN I1 o bl (seC A cs u fresh level) (seR rc u fresh) (seW v A bl (pFol A fresh) u level w (gN v)) ∧ mx_fr I I1 o (o + 5) ∧ kp I I1 o) rv Iz ∧ Gz = G) (fun _ _ _ => False) := by
    intro fq
    induction fq with
    | zero => intro s I1 hfu; exact absurd hfu (Nat.not_lt_zero _)
    | succ fq ih =>
      intro s I1 hfu hsn1 h5 a1 a2 a4 hfr hkp
      have J115 : ∀ (I2 : mx_I), (s < gN v) → (I2 o 5 = nI bl) → (csN I2 (o + 1) (seC A cs u fresh level) 8) → (arN I2 (o + 2) (seR rc u fresh) 8) → (arN I2 (o + 4) (seWa v A bl (pFol A fresh) u level s (seW v A bl (pFol A fresh) u level w s)) 80) → (mx_fr I I2 o (o + 5)) → (kp I I2 o) → mx_V mX5_settle mx_S0 2 0 0 115 [some (.ref o), some (.ref q), some (.int (nI u)), some (.int (nI fresh)), some (.int (nI level)), some (.int (nI (pFol A fresh))), some (.int (nI s))] [] G I2 (fun rv Gz Iz => (fun rv I1 => rv = none ∧ seN I1 o bl (seC A cs u fresh level) (seR rc u fresh) (seW v A bl (pFol A fresh) u level w (gN v)) ∧ mx_fr I I1 o (o + 5) ∧ kp I I1 o) rv Iz ∧ Gz = G) (fun _ _ _ => False) := by
        intro I2 hsn h5 a1 a2 a4 hfr hkp
        refine mx_aload_n (i := 1) (hi := rfl) (hl := rfl) (hd := dX5_settle_115) ?_
        refine mx_getR (ci := 6) (k := 4) (r := (q + 3)) dX5_settle_116 k_185 (by decide) rfl (by assumption) (by assumption) (by omega) ?_
        refine mx_iload (i := 6) (hl := rfl) (hd := dX5_settle_119) ?_
        refine mx_ialdV s (nI (gT v s)) dX5_settle_121 (by assumption) ⟨rfl, by omega, by omega⟩ (hT.f hfr (by omega) s (by omega)) ?_
        refine mx_iload_n (i := 2) (hi := rfl) (hl := rfl) (hd := dX5_settle_122) ?_
        refine mx_cmpN_ne 168 dX5_settle_123 (by decide) (by have := hb s (by omega); omega) (by omega) (fun c123 => ?_) (fun c123 => ?_)
        · skip
          refine mx_iincE (i := 6) (ls' := [some (.ref o), some (.ref q), some (.int (nI u)), some (.int (nI fresh)), some (.int (nI level)), some (.int (nI (pFol A fresh))), some (.int (nI (s + 1)))]) 1 dX5_settle_168 rfl (by decide) (by decide) rfl rfl ?_
          refine mx_goto (tgt := 53) dX5_settle_171 (by decide) ?_
          exact ih (s + 1) _ (by omega) (by omega) h5 a1 a2 (by unfold seW seWb; rw [if_neg (by first | exact fun z => c123 z.1 | exact fun z => z.2 c132)]; exact a4) hfr hkp
        · skip
          refine mx_aload_n (i := 0) (hi := rfl) (hl := rfl) (hd := dX5_settle_126) ?_
          refine mx_iload (i := 6) (hl := rfl) (hd := dX5_settle_127) ?_
          refine mx_callVp (ci := 5) (As := [.int (nI s)]) (rest := []) dX5_settle_129 (ct_isBlocked G I2 o bl s ha0 h5 hbl31 (by omega)) km_X5_isBlocked rfl k_570 k_572 k_11 (by assumption) rfl rfl (Nat.le_of_ble_eq_true rfl) (by decide) ?_
          refine mx_ifB_ne 168 dX5_settle_132 (by decide) (fun c132 => ?_) (fun c132 => ?_)
          · skip
            refine mx_iincE (i := 6) (ls' := [some (.ref o), some (.ref q), some (.int (nI u)), some (.int (nI fresh)), some (.int (nI level)), some (.int (nI (pFol A fresh))), some (.int (nI (s + 1)))]) 1 dX5_settle_168 rfl (by decide) (by decide) rfl rfl ?_
            refine mx_goto (tgt := 53) dX5_settle_171 (by decide) ?_
            exact ih (s + 1) _ (by omega) (by omega) h5 a1 a2 (by unfold seW seWb; rw [if_neg (by first | exact fun z => c123 z.1 | exact fun z => z.2 c132)]; exact a4) hfr hkp
          · skip
            refine mx_aload_n (i := 0) (hi := rfl) (hl := rfl) (hd := dX5_settle_135) ?_
            refine mx_getR (ci := 5) (k := 4) (r := (o + 3)) dX5_settle_136 k_254 (by decide) rfl (by assumption) (by assumption) (by omega) ?_
            refine mx_iload (i := 4) (hl := rfl) (hd := dX5_settle_139) ?_
            refine mx_aload_n (i := 1) (hi := rfl) (hl := rfl) (hd := dX5_settle_141) ?_
            refine mx_getR (ci := 6) (k := 5) (r := (q + 4)) dX5_settle_142 k_190 (by decide) rfl (by assumption) (by assumption) (by omega) ?_
            refine mx_iload (i := 6) (hl := rfl) (hd := dX5_settle_145) ?_
            refine mx_ialdV s (nI (gC v s)) dX5_settle_147 (by assumption) ⟨rfl, by omega, by omega⟩ (hC.f hfr (by omega) s (by omega)) ?_
            refine mx_iaddN dX5_settle_148 ?_
            refine mx_aload_n (i := 1) (hi := rfl) (hl := rfl) (hd := dX5_settle_149) ?_
            refine mx_getR (ci := 6) (k := 2) (r := (q + 1)) dX5_settle_150 k_177 (by decide) rfl (by assumption) (by assumption) (by omega) ?_
            refine mx_iload (i := 6) (hl := rfl) (hd := dX5_settle_153) ?_
            refine mx_ialdV s (nI (gF v s)) dX5_settle_155 (by assumption) ⟨rfl, by omega, by omega⟩ (hF.f hfr (by omega) s (by omega)) ?_
            refine mx_aload_n (i := 1) (hi := rfl) (hl := rfl) (hd := dX5_settle_156) ?_
            refine mx_iload (i := 5) (hl := rfl) (hd := dX5_settle_157) ?_
            refine mx_iload (i := 6) (hl := rfl) (hd := dX5_settle_159) ?_
            refine mx_iconstN 1 dX5_settle_161 (by decide) ?_
            refine mx_callVp (ci := 6) (As := [.int (nI (pFol A fresh)), .int (nI s), .int (nI 1)]) (rest := [.int (nI (gF v s)), .int (nI (level + (gC v s))), .ref (o + 3)]) dX5_settle_162 (ct_enter G I2 q pt v A (he0.fr hfr (by omega) (by omega)) (pFol A fresh) s 1 (by omega) (by decide)) km_X6_enter rfl k_574 k_575 k_576 (by assumption) rfl rfl (Nat.le_of_ble_eq_true rfl) (by decide) ?_
            refine mx_callVi (ci := 8) (As := [.int (nI (level + (gC v s))), .int (nI (gF v s)), .int (nI ((pFol A fresh) &&& pEn A 1 (gK v s)))]) (rest := []) dX5_settle_165 (ct_whPut G I2 (o + 3) _ hwh0 a4 (level + gC v s) (gF v s) ((pFol A fresh) &&& pEn A 1 (gK v s)) (by have := hb s (by omega); omega) (by have := hb s (by omega); omega)) km_X8_put rfl k_550 k_551 k_552 (by assumption) rfl rfl (Nat.le_of_ble_eq_true rfl) (by decide) (fun r1 I3 h2 => ?_)
            obtain ⟨e9, hq1, hq2⟩ := h2
            subst e9
            have hfr3 : mx_fr I I3 o (o + 5) := hfr.tr (hq2.wk (by omega) (by omega))
            have h53 : I3 o 5 = nI bl := by rw [hq2 o (by omega)]; exact h5
            have a13 := a1.f hq2 (by omega)
            have a23 := a2.f hq2 (by omega)
            have hkp3 := hkp.fr hq2 (by omega)
            refine mx_iincE (i := 6) (ls' := [some (.ref o), some (.ref q), some (.int (nI u)), some (.int (nI fresh)), some (.int (nI level)), some (.int (nI (pFol A fresh))), some (.int (nI (s + 1)))]) 1 dX5_settle_168 rfl (by decide) (by decide) rfl rfl ?_
            refine mx_goto (tgt := 53) dX5_settle_171 (by decide) ?_
            exact ih (s + 1) _ (by omega) (by omega) h53 a13 a23 (by unfold seW seWb; rw [if_pos ⟨c123, c132⟩]; exact hq1) hfr3 hkp3
      refine mx_iload (i := 6) (hl := rfl) (hd := dX5_settle_53) ?_
      refine mx_aload_n (i := 1) (hi := rfl) (hl := rfl) (hd := dX5_settle_55) ?_
      refine mx_getV (ci := 6) (k := 1) (nI (gN v)) dX5_settle_56 k_172 (by decide) rfl (by assumption) (by rw [hfr _ (by omega)]; exact hv1) ?_
      refine mx_cmpN_ge 174 dX5_settle_59 (by decide) (by omega) (by omega) (fun c59 => ?_) (fun c59 => ?_)
      · skip
        refine mx_vret dX5_settle_174 rfl (⟨⟨rfl, ⟨h5, a1, a2, ?_⟩, hfr, hkp⟩, rfl⟩)
        rw [show gN v = s by omega]; exact a4
      · skip
        refine mx_aload_n (i := 1) (hi := rfl) (hl := rfl) (hd := dX5_settle_62) ?_
        refine mx_getR (ci := 6) (k := 2) (r := (q + 1)) dX5_settle_63 k_177 (by decide) rfl (by assumption) (by assumption) (by omega) ?_
        refine mx_iload (i := 6) (hl := rfl) (hd := dX5_settle_66) ?_
        refine mx_ialdV s (nI (gF v s)) dX5_settle_68 (by assumption) ⟨rfl, by omega, by omega⟩ (hF.f hfr (by omega) s (by omega)) ?_
        refine mx_iload_n (i := 2) (hi := rfl) (hl := rfl) (hd := dX5_settle_69) ?_
        refine mx_cmpN_ne 115 dX5_settle_70 (by decide) (by have := hb s (by omega); omega) (by omega) (fun c70 => ?_) (fun c70 => ?_)
        · skip
          exact J115 _ (by omega) h5 a1 a2 (by unfold seWa; rw [if_neg (by first | exact fun z => c70 z.1 | exact fun z => z.2 c79)]; exact a4) hfr hkp
        · skip
          refine mx_aload_n (i := 0) (hi := rfl) (hl := rfl) (hd := dX5_settle_73) ?_
          refine mx_iload (i := 6) (hl := rfl) (hd := dX5_settle_74) ?_
          refine mx_callVp (ci := 5) (As := [.int (nI s)]) (rest := []) dX5_settle_76 (ct_isBlocked G I1 o bl s ha0 h5 hbl31 (by omega)) km_X5_isBlocked rfl k_570 k_572 k_11 (by assumption) rfl rfl (Nat.le_of_ble_eq_true rfl) (by decide) ?_
          refine mx_ifB_ne 115 dX5_settle_79 (by decide) (fun c79 => ?_) (fun c79 => ?_)
          · skip
            exact J115 _ (by omega) h5 a1 a2 (by unfold seWa; rw [if_neg (by first | exact fun z => c70 z.1 | exact fun z => z.2 c79)]; exact a4) hfr hkp
          · skip
            refine mx_aload_n (i := 0) (hi := rfl) (hl := rfl) (hd := dX5_settle_82) ?_
            refine mx_getR (ci := 5) (k := 4) (r := (o + 3)) dX5_settle_83 k_254 (by decide) rfl (by assumption) (by assumption) (by omega) ?_
            refine mx_iload (i := 4) (hl := rfl) (hd := dX5_settle_86) ?_
            refine mx_aload_n (i := 1) (hi := rfl) (hl := rfl) (hd := dX5_settle_88) ?_
            refine mx_getR (ci := 6) (k := 5) (r := (q + 4)) dX5_settle_89 k_190 (by decide) rfl (by assumption) (by assumption) (by omega) ?_
            refine mx_iload (i := 6) (hl := rfl) (hd := dX5_settle_92) ?_
            refine mx_ialdV s (nI (gC v s)) dX5_settle_94 (by assumption) ⟨rfl, by omega, by omega⟩ (hC.f hfr (by omega) s (by omega)) ?_
            refine mx_iaddN dX5_settle_95 ?_
            refine mx_aload_n (i := 1) (hi := rfl) (hl := rfl) (hd := dX5_settle_96) ?_
            refine mx_getR (ci := 6) (k := 4) (r := (q + 3)) dX5_settle_97 k_185 (by decide) rfl (by assumption) (by assumption) (by omega) ?_
            refine mx_iload (i := 6) (hl := rfl) (hd := dX5_settle_100) ?_
            refine mx_ialdV s (nI (gT v s)) dX5_settle_102 (by assumption) ⟨rfl, by omega, by omega⟩ (hT.f hfr (by omega) s (by omega)) ?_
            refine mx_aload_n (i := 1) (hi := rfl) (hl := rfl) (hd := dX5_settle_103) ?_
            refine mx_iload (i := 5) (hl := rfl) (hd := dX5_settle_104) ?_
            refine mx_iload (i := 6) (hl := rfl) (hd := dX5_settle_106) ?_
            refine mx_iconstN 0 dX5_settle_108 (by decide) ?_
            refine mx_callVp (ci := 6) (As := [.int (nI (pFol A fresh)), .int (nI s), .int (nI 0)]) (rest := [.int (nI (gT v s)), .int (nI (level + (gC v s))), .ref (o + 3)]) dX5_settle_109 (ct_enter G I1 q pt v A (he0.fr hfr (by omega) (by omega)) (pFol A fresh) s 0 (by omega) (by decide)) km_X6_enter rfl k_574 k_575 k_576 (by assumption) rfl rfl (Nat.le_of_ble_eq_true rfl) (by decide) ?_
            refine mx_callVi (ci := 8) (As := [.int (nI (level + (gC v s))), .int (nI (gT v s)), .int (nI ((pFol A fresh) &&& pEn A 0 (gK v s)))]) (rest := []) dX5_settle_112 (ct_whPut G I1 (o + 3) _ hwh0 a4 (level + gC v s) (gT v s) ((pFol A fresh) &&& pEn A 0 (gK v s)) (by have := hb s (by omega); omega) (by have := hb s (by omega); omega)) km_X8_put rfl k_550 k_551 k_552 (by assumption) rfl rfl (Nat.le_of_ble_eq_true rfl) (by decide) (fun r3 I3 h4 => ?_)
            obtain ⟨e9, hq1, hq2⟩ := h4
            subst e9
            have hfr3 : mx_fr I I3 o (o + 5) := hfr.tr (hq2.wk (by omega) (by omega))
            have h53 : I3 o 5 = nI bl := by rw [hq2 o (by omega)]; exact h5
            have a13 := a1.f hq2 (by omega)
            have a23 := a2.f hq2 (by omega)
            have hkp3 := hkp.fr hq2 (by omega)
            exact J115 _ (by omega) h53 a13 a23 (by unfold seWa; rw [if_pos ⟨c70, c79⟩]; exact hq1) hfr3 hkp3
  refine mx_aload_n (i := 0) (hi := rfl) (hl := rfl) (hd := dX5_settle_0) ?_
  refine mx_getR (ci := 5) (k := 3) (r := (o + 2)) dX5_settle_1 k_253 (by decide) rfl (by assumption) (by assumption) (by omega) ?_
  refine mx_iload_n (i := 2) (hi := rfl) (hl := rfl) (hd := dX5_settle_4) ?_
  refine mx_dup2 (hva := rfl) (hvb := rfl) (hd := dX5_settle_5) ?_
  refine mx_ialdV u (nI (rc u)) dX5_settle_6 (by assumption) ⟨rfl, by omega, by omega⟩ (hrc u (by omega)) ?_
  refine mx_iload_n (i := 3) (hi := rfl) (hl := rfl) (hd := dX5_settle_7) ?_
  refine mx_iorN dX5_settle_8 ?_
  refine mx_iast u dX5_settle_9 (by assumption) ⟨rfl, by omega, by omega⟩ ?_
  refine mx_aload_n (i := 0) (hi := rfl) (hl := rfl) (hd := dX5_settle_10) ?_
  refine mx_getR (ci := 5) (k := 0) (r := (o + 1)) dX5_settle_11 k_247 (by decide) rfl (by assumption) (by assumption) (by omega) ?_
  refine mx_iload_n (i := 2) (hi := rfl) (hl := rfl) (hd := dX5_settle_14) ?_
  refine mx_ialdV u (oI (cs u) : Int32) dX5_settle_15 (by assumption) ⟨rfl, by omega, by omega⟩ (by rw [mx_u_at, if_neg (by omega)]; exact (hcs u (by omega))) ?_
  refine mx_bipush (v := (-9)) (by decide) dX5_settle_16 ?_
  refine mx_icmp_ne (tgt := 40) dX5_settle_18 (by decide) (fun c18 => ?_) (fun c18 => ?_)
  · skip
    have hcn : ¬ cs u = none := fun z => c18 ((oI_iff (fun z hz => hcb u (by omega) z hz)).mpr z)
    refine mx_aload_n (i := 1) (hi := rfl) (hl := rfl) (hd := dX5_settle_40) ?_
    refine mx_getR (ci := 6) (k := 6) (r := pt) dX5_settle_41 k_194 (by decide) rfl (by assumption) (by assumption) (by omega) ?_
    refine mx_iload_n (i := 3) (hi := rfl) (hl := rfl) (hd := dX5_settle_44) ?_
    refine mx_callVp (ci := 2) (As := [.int (nI fresh)]) (rest := []) dX5_settle_45 (ct_following G _ pt A hsp0 (hvp0.fr ((mx_fr.rf _ o (o + 5)).u (by omega)) (by omega)) fresh hfs) km_X2_following rfl k_566 k_567 k_568 (by assumption) rfl rfl (Nat.le_of_ble_eq_true rfl) (by decide) ?_
    refine mx_istoreE (i := 5) (ls' := [some (.ref o), some (.ref q), some (.int (nI u)), some (.int (nI fresh)), some (.int (nI level)), some (.int (nI (pFol A fresh))), none]) (hd := dX5_settle_48) (hn := by decide) (hok := rfl) (hls := rfl) ?_
    refine mx_iconstN 0 dX5_settle_50 (by decide) ?_
    refine mx_istoreE (i := 6) (ls' := [some (.ref o), some (.ref q), some (.int (nI u)), some (.int (nI fresh)), some (.int (nI level)), some (.int (nI (pFol A fresh))), some (.int (nI 0))]) (hd := dX5_settle_51) (hn := by decide) (hok := rfl) (hls := rfl) ?_
    exact L53 _ 0 _ (Nat.lt_succ_self _) (Nat.zero_le _) (by rw [mx_u_at, if_neg (by omega)]; exact hbl) ((hcs.o (by omega)).c (fun j _ => by unfold seC; rw [if_neg (by first | exact fun z => hcn z.2.1 | exact fun z => c29 z.2.2)])) ((hrc.u).c (fun j _ => by unfold seR; by_cases e : j = u <;> simp [e])) (hww.o (by omega)) ((mx_fr.rf _ _ _).u (by omega)) ((kp.rf _ _).u (by omega))
  · skip
    have hcn : cs u = none := (oI_iff (fun z hz => hcb u (by omega) z hz)).mp c18
    refine mx_aload_n (i := 1) (hi := rfl) (hl := rfl) (hd := dX5_settle_21) ?_
    refine mx_getR (ci := 6) (k := 6) (r := pt) dX5_settle_22 k_194 (by decide) rfl (by assumption) (by assumption) (by omega) ?_
    refine mx_iload_n (i := 3) (hi := rfl) (hl := rfl) (hd := dX5_settle_25) ?_
    refine mx_callVp (ci := 2) (As := [.int (nI fresh)]) (rest := []) dX5_settle_26 (ct_accepts G _ pt A hsp0 (hvp0.fr ((mx_fr.rf _ o (o + 5)).u (by omega)) (by omega)) fresh hfs) km_X2_accepts rfl k_562 k_563 k_564 (by assumption) rfl rfl (Nat.le_of_ble_eq_true rfl) (by decide) ?_
    refine mx_ifB_eq 40 dX5_settle_29 (by decide) (fun c29 => ?_) (fun c29 => ?_)
    · skip
      refine mx_aload_n (i := 1) (hi := rfl) (hl := rfl) (hd := dX5_settle_40) ?_
      refine mx_getR (ci := 6) (k := 6) (r := pt) dX5_settle_41 k_194 (by decide) rfl (by assumption) (by assumption) (by omega) ?_
      refine mx_iload_n (i := 3) (hi := rfl) (hl := rfl) (hd := dX5_settle_44) ?_
      refine mx_callVp (ci := 2) (As := [.int (nI fresh)]) (rest := []) dX5_settle_45 (ct_following G _ pt A hsp0 (hvp0.fr ((mx_fr.rf _ o (o + 5)).u (by omega)) (by omega)) fresh hfs) km_X2_following rfl k_566 k_567 k_568 (by assumption) rfl rfl (Nat.le_of_ble_eq_true rfl) (by decide) ?_
      refine mx_istoreE (i := 5) (ls' := [some (.ref o), some (.ref q), some (.int (nI u)), some (.int (nI fresh)), some (.int (nI level)), some (.int (nI (pFol A fresh))), none]) (hd := dX5_settle_48) (hn := by decide) (hok := rfl) (hls := rfl) ?_
      refine mx_iconstN 0 dX5_settle_50 (by decide) ?_
      refine mx_istoreE (i := 6) (ls' := [some (.ref o), some (.ref q), some (.int (nI u)), some (.int (nI fresh)), some (.int (nI level)), some (.int (nI (pFol A fresh))), some (.int (nI 0))]) (hd := dX5_settle_51) (hn := by decide) (hok := rfl) (hls := rfl) ?_
      exact L53 _ 0 _ (Nat.lt_succ_self _) (Nat.zero_le _) (by rw [mx_u_at, if_neg (by omega)]; exact hbl) ((hcs.o (by omega)).c (fun j _ => by unfold seC; rw [if_neg (by first | exact fun z => hcn z.2.1 | exact fun z => c29 z.2.2)])) ((hrc.u).c (fun j _ => by unfold seR; by_cases e : j = u <;> simp [e])) (hww.o (by omega)) ((mx_fr.rf _ _ _).u (by omega)) ((kp.rf _ _).u (by omega))
    · skip
      refine mx_aload_n (i := 0) (hi := rfl) (hl := rfl) (hd := dX5_settle_32) ?_
      refine mx_getR (ci := 5) (k := 0) (r := (o + 1)) dX5_settle_33 k_247 (by decide) rfl (by assumption) (by assumption) (by omega) ?_
      refine mx_iload_n (i := 2) (hi := rfl) (hl := rfl) (hd := dX5_settle_36) ?_
      refine mx_iload (i := 4) (hl := rfl) (hd := dX5_settle_37) ?_
      refine mx_iast u dX5_settle_39 (by assumption) ⟨rfl, by omega, by omega⟩ ?_
      refine mx_aload_n (i := 1) (hi := rfl) (hl := rfl) (hd := dX5_settle_40) ?_
      refine mx_getR (ci := 6) (k := 6) (r := pt) dX5_settle_41 k_194 (by decide) rfl (by assumption) (by assumption) (by omega) ?_
      refine mx_iload_n (i := 3) (hi := rfl) (hl := rfl) (hd := dX5_settle_44) ?_
      refine mx_callVp (ci := 2) (As := [.int (nI fresh)]) (rest := []) dX5_settle_45 (ct_following G _ pt A hsp0 (hvp0.fr (((mx_fr.rf _ o (o + 5)).u (by omega)).u (by omega)) (by omega)) fresh hfs) km_X2_following rfl k_566 k_567 k_568 (by assumption) rfl rfl (Nat.le_of_ble_eq_true rfl) (by decide) ?_
      refine mx_istoreE (i := 5) (ls' := [some (.ref o), some (.ref q), some (.int (nI u)), some (.int (nI fresh)), some (.int (nI level)), some (.int (nI (pFol A fresh))), none]) (hd := dX5_settle_48) (hn := by decide) (hok := rfl) (hls := rfl) ?_
      refine mx_iconstN 0 dX5_settle_50 (by decide) ?_
      refine mx_istoreE (i := 6) (ls' := [some (.ref o), some (.ref q), some (.int (nI u)), some (.int (nI fresh)), some (.int (nI level)), some (.int (nI (pFol A fresh))), some (.int (nI 0))]) (hd := dX5_settle_51) (hn := by decide) (hok := rfl) (hls := rfl) ?_
      exact L53 _ 0 _ (Nat.lt_succ_self _) (Nat.zero_le _) (by rw [mx_u_at, if_neg (by omega), mx_u_at, if_neg (by omega)]; exact hbl) ((csN.u (x := some level) (hcs.o (by omega))).c (fun j _ => by unfold seC; by_cases e : j = u <;> simp [e, hcn, c29])) ((hrc.u.o (by omega)).c (fun j _ => by unfold seR; by_cases e : j = u <;> simp [e])) ((hww.o (by omega)).o (by omega)) (((mx_fr.rf _ _ _).u (by omega)).u (by omega)) (((kp.rf _ _).u (by omega)).u (by omega))
