/-! Search.run and what asks it -/
abbrev Sg : Type := Nat × (Nat → Option Nat) × (Nat → Nat) × (Nat → Nat)
/-- one person at one level: idle, costs, reached, wheel -/
def sRow1 (v : Gr) (A : Pa) (bl level u : Nat) (x : Sg) : Sg :=
  if mx_wo (x.2.2.2 (level % 10 * 8 + u)) (x.2.2.1 u) = 0 then (x.1, x.2.1, x.2.2.1, whD x.2.2.2 level u)
  else (0, seC A x.2.1 u (mx_wo (x.2.2.2 (level % 10 * 8 + u)) (x.2.2.1 u)) level, seR x.2.2.1 u (mx_wo (x.2.2.2 (level % 10 * 8 + u)) (x.2.2.1 u)), seW v A bl (pFol A (mx_wo (x.2.2.2 (level % 10 * 8 + u)) (x.2.2.1 u))) u level (whD x.2.2.2 level u) (gN v))
def sRow (v : Gr) (A : Pa) (bl level : Nat) : Nat → Sg → Sg
  | 0, x => x
  | u + 1, x => sRow1 v A bl level u (sRow v A bl level u x)
def sHit (qq : Option Nat) (cs : Nat → Option Nat) : Bool := match qq with
  | none => false
  | some q => (cs q).isSome
def sRun (v : Gr) (A : Pa) (bl : Nat) (qq : Option Nat) : Nat → Nat → Sg → Sg
  | 0, _, x => x
  | f + 1, level, x => if x.1 < 10 then (if sHit qq (sRow v A bl level (gP v) (x.1 + 1, x.2)).2.1 = true then sRow v A bl level (gP v) (x.1 + 1, x.2) else sRun v A bl qq f (level + 1) (sRow v A bl level (gP v) (x.1 + 1, x.2))) else x
def sIni (p : Nat) : Sg := (0, fun _ => none, fun _ => 0, whP (fun _ => 0) 0 p 1)
/-- the whole search: costs, reached, wheel at its end -/
def sFin (v : Gr) (A : Pa) (p : Nat) (qq : Option Nat) (bl lim : Nat) : Sg := sRun v A bl qq lim 0 (sIni p)
/-- the bounds that the machine wants -/
def sOk (lv : Nat) (x : Sg) : Prop := x.1 ≤ 11 ∧ (∀ u z, x.2.1 u = some z → z < lv) ∧ ∀ j, x.2.2.2 j < 2 ^ 21
theorem mx_wo_lt {a b n : Nat} (h : a < 2 ^ n) : mx_wo a b < 2 ^ n := by
  unfold mx_wo
  exact Nat.xor_lt_two_pow h (mx_and_lt h)
theorem whP_lt {w : Nat → Nat} (h : ∀ j, w j < 2 ^ 21) (lv u : Nat) {x : Nat} (hx : x < 2 ^ 21) (j : Nat) : whP w lv u x j < 2 ^ 21 := by
  unfold whP
  split
  · exact mx_or_lt (h j) hx
  · exact h j
theorem whD_lt {w : Nat → Nat} (h : ∀ j, w j < 2 ^ 21) (lv u j : Nat) : whD w lv u j < 2 ^ 21 := by
  unfold whD
  split
  · exact Nat.two_pow_pos 21
  · exact h j
theorem seW_lt {v : Gr} {A : Pa} {bl nx u level : Nat} {w : Nat → Nat} (hn : nx < 2 ^ 21) (h : ∀ j, w j < 2 ^ 21) : ∀ s j, seW v A bl nx u level w s j < 2 ^ 21
  | 0, j => h j
  | s + 1, j => by
    have ih := seW_lt (v := v) (A := A) (bl := bl) (u := u) (level := level) hn h s
    have ha : ∀ j, seWa v A bl nx u level s (seW v A bl nx u level w s) j < 2 ^ 21 := by
      intro j
      unfold seWa
      split
      · exact whP_lt ih _ _ (mx_and_lt hn) j
      · exact ih j
    show seWb v A bl nx u level s _ j < 2 ^ 21
    unfold seWb
    split
    · exact whP_lt ha _ _ (mx_and_lt hn) j
    · exact ha j
theorem sOk.row1 {v : Gr} {A : Pa} (hA : wfP A) {bl lv u : Nat} {x : Sg} (h : sOk (lv + 1) x) : sOk (lv + 1) (sRow1 v A bl lv u x) := by
  obtain ⟨h1, h2, h3⟩ := h
  unfold sRow1
  split
  · exact ⟨h1, h2, whD_lt h3 lv u⟩
  · refine ⟨Nat.zero_le _, fun y z hz => ?_, seW_lt (pFol_lt hA _) (whD_lt h3 lv u) (gN v)⟩
    have hz : seC A x.2.1 u _ lv y = some z := hz
    unfold seC at hz
    split at hz
    · cases hz; omega
    · exact h2 y z hz
theorem sOk.row {v : Gr} {A : Pa} (hA : wfP A) {bl lv : Nat} {x : Sg} (h : sOk (lv + 1) x) : ∀ u, sOk (lv + 1) (sRow v A bl lv u x)
  | 0 => h
  | u + 1 => (sOk.row hA h u).row1 hA
theorem sOk.up {lv : Nat} {x : Sg} (h : sOk lv x) (h9 : x.1 ≤ 10) : sOk (lv + 1) (x.1 + 1, x.2) := ⟨by show x.1 + 1 ≤ 11; omega, fun u z hz => by have := h.2.1 u z hz; omega, h.2.2⟩
theorem sOk.wk {lv lv' : Nat} {x : Sg} (h : sOk lv x) (hl : lv ≤ lv') : sOk lv' x := ⟨h.1, fun u z hz => by have := h.2.1 u z hz; omega, h.2.2⟩
theorem sOk.run {v : Gr} {A : Pa} (hA : wfP A) {bl : Nat} {qq : Option Nat} : ∀ (f lv : Nat) (x : Sg), sOk lv x → sOk (lv + f) (sRun v A bl qq f lv x)
  | 0, lv, x, h => h
  | f + 1, lv, x, h => by
    unfold sRun
    split
    · next c =>
      have h1 := (h.up (by omega)).row (bl := bl) hA (v := v) (gP v)
      split
      · exact h1.wk (by omega)
      · have := sOk.run (bl := bl) (v := v) hA (qq := qq) f (lv + 1) _ h1
        rwa [show lv + (f + 1) = lv + 1 + f by omega]
    · exact h.wk (by omega)
theorem sOk.ini (p : Nat) : sOk 0 (sIni p) := by
  refine ⟨Nat.zero_le _, fun u z hz => ?_, fun j => whP_lt (w := fun _ => 0) (fun _ => Nat.two_pow_pos 21) 0 p (x := 1) (by decide) j⟩
  have hz : (none : Option Nat) = some z := hz
  cases hz
theorem sHit_t {qq : Option Nat} {cs : Nat → Option Nat} (h1 : ¬ oI qq = -9) (h2 : ¬ oI (cs (qq.getD 0)) = -9) : sHit qq cs = true := by
  cases qq with
  | none => exact absurd rfl h1
  | some z =>
    show (cs z).isSome = true
    have h2 : ¬ oI (cs z) = -9 := h2
    cases hz : cs z with
    | none => rw [hz] at h2; exact absurd rfl h2
    | some z2 => rfl
theorem sHit_f {qq : Option Nat} {cs : Nat → Option Nat} (hq : ∀ z, qq = some z → z < 2 ^ 31) (hc : ∀ u z, cs u = some z → z < 2 ^ 31) (h : oI qq = -9 ∨ oI (cs (qq.getD 0)) = -9) : ¬ sHit qq cs = true := by
  cases qq with
  | none => exact Bool.noConfusion
  | some z =>
    rcases h with h | h
    · exact absurd ((oI_iff hq).mp h) (by simp)
    · have h : oI (cs z) = -9 := h
      have h3 := (oI_iff (fun y hy => hc z y hy)).mp h
      show ¬ (cs z).isSome = true
      rw [h3]; exact Bool.noConfusion

set_option maxHeartbeats 4000000 in
set_option maxRecDepth 100000 in
theorem ct_seRun (G : mx_G) (I : mx_I) (o : Nat) (hs : oSE G o) (q pt : Nat) (v : Gr) (A : Pa) (he : env G I q pt v A) (hd1 : q + 5 ≤ o ∨ o + 5 ≤ q) (hd2 : pt + 5 ≤ o ∨ o + 5 ≤ pt) (p bl lim : Nat) (qq : Option Nat) (hp : p < gP v) (hbl31 : bl < 2 ^ 31) (hlim : lim ≤ 1512) (hqq : ∀ z, qq = some z → z < gP v) : mx_CTi yX5_run mX5_run 3 [.ref o, .ref q, .int (nI p), .int (oI qq), .int (nI bl), .int (nI lim)] G I (fun rv I1 => rv = none ∧ seN I1 o bl (sFin v A p qq bl lim).2.1 (sFin v A p qq bl lim).2.2.1 (sFin v A p qq bl lim).2.2.2 ∧ mx_fr I I1 o (o + 5) ∧ kp I I1 o) := by
  refine mx_start (k := 4) (by decide) rfl rfl (fun h => nomatch h) (Nat.le_of_ble_eq_true rfl) ?_
  show mx_V mX5_run mx_S0 3 0 0 0 [some (.ref o), some (.ref q), some (.int (nI p)), some (.int (oI qq)), some (.int (nI bl)), some (.int (nI lim)), none, none, none, none] [] G I (fun rv Gz Iz => (fun rv I1 => rv = none ∧ seN I1 o bl (sFin v A p qq bl lim).2.1 (sFin v A p qq bl lim).2.2.1 (sFin v A p qq bl lim).2.2.2 ∧ mx_fr I I1 o (o + 5) ∧ kp I I1 o) rv Iz ∧ Gz = G) (fun _ _ _ => False)
  have he0 := he
  have hwp := he.2.2.2.2.1
  have hs0 := hs
  obtain ⟨hsq, hsp, hrp, hvq, hvp⟩ := he
  obtain ⟨hg0, ⟨hg2, hg3, hg4⟩, ⟨hg5, hg6, hg7⟩, ⟨hg8, hg9, hg10⟩, ⟨hg11, hg12, hg13⟩⟩ := hsq
  obtain ⟨⟨hP, hN, hb⟩, hv0, hv1, hF, hK, hT, hC⟩ := hvq
  obtain ⟨ha0, ⟨ha1, ha2, ha3⟩, ⟨ha4, ha5, ha6⟩, ha7, hwh⟩ := hs
  have hwh0 := hwh
  obtain ⟨hw0, hw1, hw2, hw3⟩ := hwh
  have hq8 : qq.getD 0 < 8 := by
    cases qq with
    | none => exact (by decide : 0 < 8)
    | some z => have := hqq z rfl; show z < 8; omega
  have L22 : ∀ (fq : Nat) (level : Nat) (I1 : mx_I) (x : Sg), lim - level < fq → (level ≤ lim) → (sOk level x) → (sFin v A p qq bl lim = sRun v A bl qq (lim - level) level x) → (I1 o 5 = nI bl) → (csN I1 (o + 1) x.2.1 8) → (arN I1 (o + 2) x.2.2.1 8) → (arN I1 (o + 4) x.2.2.2 80) → (mx_fr I I1 o (o + 5)) → (kp I I1 o) → mx_V mX5_run mx_S0 3 0 0 22 [some (.ref o), some (.ref q), some (.int (nI p)), some (.int (oI qq)), some (.int (nI bl)), some (.int (nI lim)), some (.int (nI x.1)), some (.int (nI level)), none, none] [] G I1 (fun rv Gz Iz => (fun rv I1 => rv = none ∧ seN I1 o bl (sFin v A p qq bl lim).2.1 (sFin v A p qq bl lim).2.2.1 (sFin v A p qq bl lim).2.2.2 ∧ mx_fr I I1 o (o + 5) ∧ kp I I1 o) rv Iz ∧ Gz = G) (fun _ _ _ => False) := by
    intro fq
    induction fq with
    | zero => intro level I1 x hfu; exact absurd hfu (Nat.not_lt_zero _)
    | succ fq ih =>
      intro level I1 x hfu hlv hok hfin h5 hc hr hw hfr hkp
      have hx11 := hok.1
      have L42 : ∀ (fq : Nat) (u : Nat) (I2 : mx_I) (y : Sg), gP v - u < fq → (u ≤ gP v) → (level < lim) → (x.1 < 10) → (sOk (level + 1) y) → (y = sRow v A bl level u (x.1 + 1, x.2)) → (I2 o 5 = nI bl) → (csN I2 (o + 1) y.2.1 8) → (arN I2 (o + 2) y.2.2.1 8) → (arN I2 (o + 4) y.2.2.2 80) → (mx_fr I I2 o (o + 5)) → (kp I I2 o) → mx_V mX5_run mx_S0 3 0 0 42 [some (.ref o), some (.ref q), some (.int (nI p)), some (.int (oI qq)), some (.int (nI bl)), some (.int (nI lim)), some (.int (nI y.1)), some (.int (nI level)), some (.int (nI u)), none] [] G I2 (fun rv Gz Iz => (fun rv I1 => rv = none ∧ seN I1 o bl (sFin v A p qq bl lim).2.1 (sFin v A p qq bl lim).2.2.1 (sFin v A p qq bl lim).2.2.2 ∧ mx_fr I I1 o (o + 5) ∧ kp I I1 o) rv Iz ∧ Gz = G) (fun _ _ _ => False) := by
        intro fq
        induction fq with
        | zero => intro u I2 y hfu; exact absurd hfu (Nat.not_lt_zero _)
        | succ fq ih2 =>
          intro u I2 y hfu hu hll hx10 hoky hy g5 gc gr gw gfr gkp
          have hy11 := hoky.1
          refine mx_iload (i := 8) (hl := rfl) (hd := dX5_run_42) ?_
          refine mx_aload_n (i := 1) (hi := rfl) (hl := rfl) (hd := dX5_run_44) ?_
          refine mx_getV (ci := 6) (k := 0) (nI (gP v)) dX5_run_45 k_166 (by decide) rfl (by assumption) (by rw [gfr _ (by omega)]; exact hv0) ?_
          refine mx_cmpN_ge 99 dX5_run_48 (by decide) (by omega) (by omega) (fun c48 => ?_) (fun c48 => ?_)
          · skip
            refine mx_iload_n (i := 3) (hi := rfl) (hl := rfl) (hd := dX5_run_99) ?_
            refine mx_bipush (v := (-9)) (by decide) dX5_run_100 ?_
            refine mx_icmp_eq (tgt := 117) dX5_run_102 (by decide) (fun c102 => ?_) (fun c102 => ?_)
            · skip
              refine mx_iincE (i := 7) (ls' := [some (.ref o), some (.ref q), some (.int (nI p)), some (.int (oI qq)), some (.int (nI bl)), some (.int (nI lim)), some (.int (nI y.1)), some (.int (nI (level + 1))), some (.int (nI u)), none]) 1 dX5_run_117 rfl (by decide) (by decide) rfl rfl ?_
              refine mx_goto (tgt := 22) dX5_run_120 (by decide) ?_
              refine mx_leS (ls' := [some (.ref o), some (.ref q), some (.int (nI p)), some (.int (oI qq)), some (.int (nI bl)), some (.int (nI lim)), some (.int (nI y.1)), some (.int (nI (level + 1))), none, none]) ⟨rfl, rfl, rfl, rfl, rfl, rfl, rfl, rfl, trivial⟩ ?_
              exact ih (level + 1) _ y (by omega) (by omega) hoky (by rw [hfin, show lim - level = (lim - (level + 1)) + 1 by omega, sRun, if_pos hx10, show gP v = u by omega, ← hy, if_neg (sHit_f (fun z hz => by have := hqq z hz; omega) (fun y1 y2 hz => by have := hoky.2.1 y1 y2 hz; omega) (by first | exact Or.inl c102 | exact Or.inr c113))]) g5 gc gr gw gfr gkp
            · skip
              refine mx_aload_n (i := 0) (hi := rfl) (hl := rfl) (hd := dX5_run_105) ?_
              refine mx_getR (ci := 5) (k := 0) (r := (o + 1)) dX5_run_106 k_247 (by decide) rfl (by assumption) (by assumption) (by omega) ?_
              refine mx_iload_n (i := 3) (hi := rfl) (hl := rfl) (hd := dX5_run_109) ?_
              refine mx_ialdV (qq.getD 0) (oI (y.2.1 (qq.getD 0)) : Int32) dX5_run_110 (by assumption) (by cases qq with | none => exact absurd rfl c102 | some z => exact ⟨rfl, by have := hqq z rfl; show z < _; omega, by omega⟩) (gc (qq.getD 0) hq8) ?_
              refine mx_bipush (v := (-9)) (by decide) dX5_run_111 ?_
              refine mx_icmp_eq (tgt := 117) dX5_run_113 (by decide) (fun c113 => ?_) (fun c113 => ?_)
              · skip
                refine mx_iincE (i := 7) (ls' := [some (.ref o), some (.ref q), some (.int (nI p)), some (.int (oI qq)), some (.int (nI bl)), some (.int (nI lim)), some (.int (nI y.1)), some (.int (nI (level + 1))), some (.int (nI u)), none]) 1 dX5_run_117 rfl (by decide) (by decide) rfl rfl ?_
                refine mx_goto (tgt := 22) dX5_run_120 (by decide) ?_
                refine mx_leS (ls' := [some (.ref o), some (.ref q), some (.int (nI p)), some (.int (oI qq)), some (.int (nI bl)), some (.int (nI lim)), some (.int (nI y.1)), some (.int (nI (level + 1))), none, none]) ⟨rfl, rfl, rfl, rfl, rfl, rfl, rfl, rfl, trivial⟩ ?_
                exact ih (level + 1) _ y (by omega) (by omega) hoky (by rw [hfin, show lim - level = (lim - (level + 1)) + 1 by omega, sRun, if_pos hx10, show gP v = u by omega, ← hy, if_neg (sHit_f (fun z hz => by have := hqq z hz; omega) (fun y1 y2 hz => by have := hoky.2.1 y1 y2 hz; omega) (by first | exact Or.inl c102 | exact Or.inr c113))]) g5 gc gr gw gfr gkp
              · skip
                have hres : y = sFin v A p qq bl lim := by
                  rw [hfin, show lim - level = (lim - (level + 1)) + 1 by omega, sRun, if_pos hx10, show gP v = u by omega, ← hy, if_pos (sHit_t c102 c113)]
                exact mx_vret dX5_run_116 rfl (⟨⟨rfl, hres ▸ ⟨g5, gc, gr, gw⟩, gfr, gkp⟩, rfl⟩)
          · skip
            refine mx_aload_n (i := 0) (hi := rfl) (hl := rfl) (hd := dX5_run_51) ?_
            refine mx_getR (ci := 5) (k := 4) (r := (o + 3)) dX5_run_52 k_254 (by decide) rfl (by assumption) (by assumption) (by omega) ?_
            refine mx_iload (i := 7) (hl := rfl) (hd := dX5_run_55) ?_
            refine mx_iload (i := 8) (hl := rfl) (hd := dX5_run_57) ?_
            refine mx_callVi (ci := 8) (As := [.int (nI level), .int (nI u)]) (rest := []) dX5_run_59 (ct_whDraw G I2 (o + 3) _ hwh0 gw level u (by omega) (by omega)) km_X8_draw rfl k_554 k_555 k_556 (by assumption) rfl rfl (Nat.le_of_ble_eq_true rfl) (by decide) (fun r1 I3 h2 => ?_)
            obtain ⟨e9, k2, k3⟩ := h2
            subst e9
            have k4 : mx_fr I I3 o (o + 5) := gfr.tr (k3.wk (by omega) (by omega))
            have k5 : I3 o 5 = nI bl := by rw [k3 o (by omega)]; exact g5
            have k6 := gc.f k3 (by omega)
            have k7 := gr.f k3 (by omega)
            have k8 := gkp.fr k3 (by omega)
            refine mx_aload_n (i := 0) (hi := rfl) (hl := rfl) (hd := dX5_run_62) ?_
            refine mx_getR (ci := 5) (k := 3) (r := (o + 2)) dX5_run_63 k_253 (by decide) rfl (by assumption) (by assumption) (by omega) ?_
            refine mx_iload (i := 8) (hl := rfl) (hd := dX5_run_66) ?_
            refine mx_ialdV u (nI (y.2.2.1 u)) dX5_run_68 (by assumption) ⟨rfl, by omega, by omega⟩ ((gr.f k3 (by omega)) u (by omega)) ?_
            refine mx_iconst (v := (-1)) (by decide) dX5_run_69 ?_
            refine mx_ixor dX5_run_70 ?_
            refine mx_iand dX5_run_71 ?_
            refine mx_top (y := nI (mx_wo (y.2.2.2 (level % 10 * 8 + u)) (y.2.2.1 u))) (nI_wo _ _) ?_
            refine mx_istoreE (i := 9) (ls' := [some (.ref o), some (.ref q), some (.int (nI p)), some (.int (oI qq)), some (.int (nI bl)), some (.int (nI lim)), some (.int (nI y.1)), some (.int (nI level)), some (.int (nI u)), some (.int (nI (mx_wo (y.2.2.2 (level % 10 * 8 + u)) (y.2.2.1 u))))]) (hd := dX5_run_72) (hn := by decide) (hok := rfl) (hls := rfl) ?_
            refine mx_iload (i := 9) (hl := rfl) (hd := dX5_run_74) ?_
            refine mx_ifN_eq 93 dX5_run_76 (by decide) (by have := mx_wo_lt (b := y.2.2.1 u) (hoky.2.2 (level % 10 * 8 + u)); omega) (fun c76 => ?_) (fun c76 => ?_)
            · skip
              refine mx_iincE (i := 8) (ls' := [some (.ref o), some (.ref q), some (.int (nI p)), some (.int (oI qq)), some (.int (nI bl)), some (.int (nI lim)), some (.int (nI y.1)), some (.int (nI level)), some (.int (nI (u + 1))), some (.int (nI (mx_wo (y.2.2.2 (level % 10 * 8 + u)) (y.2.2.1 u))))]) 1 dX5_run_93 rfl (by decide) (by decide) rfl rfl ?_
              refine mx_goto (tgt := 42) dX5_run_96 (by decide) ?_
              refine mx_leS (ls' := [some (.ref o), some (.ref q), some (.int (nI p)), some (.int (oI qq)), some (.int (nI bl)), some (.int (nI lim)), some (.int (nI y.1)), some (.int (nI level)), some (.int (nI (u + 1))), none]) ⟨rfl, rfl, rfl, rfl, rfl, rfl, rfl, rfl, rfl, trivial⟩ ?_
              exact ih2 (u + 1) _ (y.1, y.2.1, y.2.2.1, whD y.2.2.2 level u) (by omega) (by omega) hll hx10 (by have h9 := hoky.row1 (bl := bl) (u := u) hwp (v := v); unfold sRow1 at h9; rw [if_pos c76] at h9; exact h9) (by rw [sRow, ← hy, sRow1, if_pos c76]) k5 k6 k7 k2 k4 k8
            · skip
              refine mx_iconstN 0 dX5_run_79 (by decide) ?_
              refine mx_istoreE (i := 6) (ls' := [some (.ref o), some (.ref q), some (.int (nI p)), some (.int (oI qq)), some (.int (nI bl)), some (.int (nI lim)), some (.int (nI 0)), some (.int (nI level)), some (.int (nI u)), some (.int (nI (mx_wo (y.2.2.2 (level % 10 * 8 + u)) (y.2.2.1 u))))]) (hd := dX5_run_80) (hn := by decide) (hok := rfl) (hls := rfl) ?_
              refine mx_aload_n (i := 0) (hi := rfl) (hl := rfl) (hd := dX5_run_82) ?_
              refine mx_aload_n (i := 1) (hi := rfl) (hl := rfl) (hd := dX5_run_83) ?_
              refine mx_iload (i := 8) (hl := rfl) (hd := dX5_run_84) ?_
              refine mx_iload (i := 9) (hl := rfl) (hd := dX5_run_86) ?_
              refine mx_iload (i := 7) (hl := rfl) (hd := dX5_run_88) ?_
              refine mx_callVi (ci := 5) (As := [.ref q, .int (nI u), .int (nI (mx_wo (y.2.2.2 (level % 10 * 8 + u)) (y.2.2.1 u))), .int (nI level)]) (rest := []) dX5_run_90 (ct_seSettle G I3 o bl y.2.1 y.2.2.1 (whD y.2.2.2 level u) hs0 ⟨k5, k6, k7, k2⟩ q pt v A (he0.fr k4 (by omega) (by omega)) hd1 hd2 u (mx_wo (y.2.2.2 (level % 10 * 8 + u)) (y.2.2.1 u)) level (by omega) (mx_wo_lt (hoky.2.2 _)) (by omega) hbl31 (fun z1 _ z2 hz => by have := hoky.2.1 z1 z2 hz; omega)) km_X5_settle rfl k_558 k_560 k_10 (by assumption) rfl rfl (Nat.le_of_ble_eq_true rfl) (by decide) (fun r3 I4 h4 => ?_)
              obtain ⟨e9, ⟨m1, m2, m3, m4⟩, m5, m7⟩ := h4
              subst e9
              have m6 : mx_fr I I4 o (o + 5) := k4.tr m5
              have m8 := k8.tr m7
              refine mx_iincE (i := 8) (ls' := [some (.ref o), some (.ref q), some (.int (nI p)), some (.int (oI qq)), some (.int (nI bl)), some (.int (nI lim)), some (.int (nI 0)), some (.int (nI level)), some (.int (nI (u + 1))), some (.int (nI (mx_wo (y.2.2.2 (level % 10 * 8 + u)) (y.2.2.1 u))))]) 1 dX5_run_93 rfl (by decide) (by decide) rfl rfl ?_
              refine mx_goto (tgt := 42) dX5_run_96 (by decide) ?_
              refine mx_leS (ls' := [some (.ref o), some (.ref q), some (.int (nI p)), some (.int (oI qq)), some (.int (nI bl)), some (.int (nI lim)), some (.int (nI 0)), some (.int (nI level)), some (.int (nI (u + 1))), none]) ⟨rfl, rfl, rfl, rfl, rfl, rfl, rfl, rfl, rfl, trivial⟩ ?_
              exact ih2 (u + 1) _ (0, seC A y.2.1 u (mx_wo (y.2.2.2 (level % 10 * 8 + u)) (y.2.2.1 u)) level, seR y.2.2.1 u (mx_wo (y.2.2.2 (level % 10 * 8 + u)) (y.2.2.1 u)), seW v A bl (pFol A (mx_wo (y.2.2.2 (level % 10 * 8 + u)) (y.2.2.1 u))) u level (whD y.2.2.2 level u) (gN v)) (by omega) (by omega) hll hx10 (by have h9 := hoky.row1 (bl := bl) (u := u) hwp (v := v); unfold sRow1 at h9; rw [if_neg c76] at h9; exact h9) (by rw [sRow, ← hy, sRow1, if_neg c76]) m1 m2 m3 m4 m6 m8
      refine mx_iload (i := 7) (hl := rfl) (hd := dX5_run_22) ?_
      refine mx_iload (i := 5) (hl := rfl) (hd := dX5_run_24) ?_
      refine mx_cmpN_ge 123 dX5_run_26 (by decide) (by omega) (by omega) (fun c26 => ?_) (fun c26 => ?_)
      · skip
        have hres : x = sFin v A p qq bl lim := by
          rw [hfin]
          by_cases hl : level < lim
          · rw [show lim - level = (lim - (level + 1)) + 1 by omega, sRun, if_neg (by omega)]
          · rw [show lim - level = 0 by omega, sRun]
        exact mx_vret dX5_run_123 rfl (⟨⟨rfl, hres ▸ ⟨h5, hc, hr, hw⟩, hfr, hkp⟩, rfl⟩)
      · skip
        refine mx_iload (i := 6) (hl := rfl) (hd := dX5_run_29) ?_
        refine mx_bipushN 10 dX5_run_31 (by decide) ?_
        refine mx_cmpN_ge 123 dX5_run_33 (by decide) (by omega) (by omega) (fun c33 => ?_) (fun c33 => ?_)
        · skip
          have hres : x = sFin v A p qq bl lim := by
            rw [hfin]
            by_cases hl : level < lim
            · rw [show lim - level = (lim - (level + 1)) + 1 by omega, sRun, if_neg (by omega)]
            · rw [show lim - level = 0 by omega, sRun]
          exact mx_vret dX5_run_123 rfl (⟨⟨rfl, hres ▸ ⟨h5, hc, hr, hw⟩, hfr, hkp⟩, rfl⟩)
        · skip
          refine mx_iincE (i := 6) (ls' := [some (.ref o), some (.ref q), some (.int (nI p)), some (.int (oI qq)), some (.int (nI bl)), some (.int (nI lim)), some (.int (nI (x.1 + 1))), some (.int (nI level)), none, none]) 1 dX5_run_36 rfl (by decide) (by decide) rfl rfl ?_
          refine mx_iconstN 0 dX5_run_39 (by decide) ?_
          refine mx_istoreE (i := 8) (ls' := [some (.ref o), some (.ref q), some (.int (nI p)), some (.int (oI qq)), some (.int (nI bl)), some (.int (nI lim)), some (.int (nI (x.1 + 1))), some (.int (nI level)), some (.int (nI 0)), none]) (hd := dX5_run_40) (hn := by decide) (hok := rfl) (hls := rfl) ?_
          exact L42 _ 0 I1 (x.1 + 1, x.2) (Nat.lt_succ_self _) (Nat.zero_le _) (by omega) (by omega) (hok.up (by omega)) rfl h5 hc hr hw hfr hkp
  refine mx_aload_n (i := 0) (hi := rfl) (hl := rfl) (hd := dX5_run_0) ?_
  refine mx_iload (i := 4) (hl := rfl) (hd := dX5_run_1) ?_
  refine mx_callVi (ci := 5) (As := [.int (nI bl)]) (rest := []) dX5_run_3 (ct_seReset G I o bl hs0) km_X5_reset rfl k_542 k_544 k_9 (by assumption) rfl rfl (Nat.le_of_ble_eq_true rfl) (by decide) (fun r5 I2 h6 => ?_)
  obtain ⟨e9, ⟨hq1, hq2, hq3, hq4⟩, hq5, hq6⟩ := h6
  subst e9
  refine mx_aload_n (i := 0) (hi := rfl) (hl := rfl) (hd := dX5_run_6) ?_
  refine mx_getR (ci := 5) (k := 4) (r := (o + 3)) dX5_run_7 k_254 (by decide) rfl (by assumption) (by assumption) (by omega) ?_
  refine mx_iconstN 0 dX5_run_10 (by decide) ?_
  refine mx_iload_n (i := 2) (hi := rfl) (hl := rfl) (hd := dX5_run_11) ?_
  refine mx_iconstN 1 dX5_run_12 (by decide) ?_
  refine mx_callVi (ci := 8) (As := [.int (nI 0), .int (nI p), .int (nI 1)]) (rest := []) dX5_run_13 (ct_whPut G I2 (o + 3) _ hwh0 hq4 0 p 1 (by decide) (by omega)) km_X8_put rfl k_550 k_551 k_552 (by assumption) rfl rfl (Nat.le_of_ble_eq_true rfl) (by decide) (fun r7 I3 h8 => ?_)
  obtain ⟨e9, hz1, hz2⟩ := h8
  subst e9
  refine mx_iconstN 0 dX5_run_16 (by decide) ?_
  refine mx_istoreE (i := 6) (ls' := [some (.ref o), some (.ref q), some (.int (nI p)), some (.int (oI qq)), some (.int (nI bl)), some (.int (nI lim)), some (.int (nI 0)), none, none, none]) (hd := dX5_run_17) (hn := by decide) (hok := rfl) (hls := rfl) ?_
  refine mx_iconstN 0 dX5_run_19 (by decide) ?_
  refine mx_istoreE (i := 7) (ls' := [some (.ref o), some (.ref q), some (.int (nI p)), some (.int (oI qq)), some (.int (nI bl)), some (.int (nI lim)), some (.int (nI 0)), some (.int (nI 0)), none, none]) (hd := dX5_run_20) (hn := by decide) (hok := rfl) (hls := rfl) ?_
  exact L22 _ 0 _ (sIni p) (Nat.lt_succ_self _) (Nat.zero_le _) (sOk.ini p) rfl (by rw [hz2 o (by omega)]; exact hq1) (hq2.f hz2 (by omega)) (hq3.f hz2 (by omega)) hz1 (hq5.tr (hz2.wk (by omega) (by omega))) (hq6.fr hz2 (by omega))
