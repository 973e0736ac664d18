/-! THE CLASS Text -/
def oTX (G : mx_G) (o : Nat) : Prop := mx_tg G o = 17 ∧ mx_rf G o 0 = o + 1 ∧ mx_tg G (o + 1) = 2 ∧ mx_ln G (o + 1) = 110
def txN (I : mx_I) (o n : Nat) (ch : Nat → Nat) : Prop := n ≤ 110 ∧ I o 1 = nI n ∧ arN I (o + 1) ch n ∧ ∀ i, i < n → ch i < 256
theorem txN.fr {I I' : mx_I} {o lo hi n : Nat} {ch : Nat → Nat} (h : txN I o n ch) (f : mx_fr I I' lo hi) (d : o + 2 ≤ lo ∨ hi ≤ o) : txN I' o n ch := ⟨h.1, by rw [f o (by omega)]; exact h.2.1, h.2.2.1.f f (by omega), h.2.2.2⟩
abbrev peA (c : Nat) : Prop := (97 ≤ c ∧ c ≤ 100) ∨ (65 ≤ c ∧ c ≤ 68) ∨ c = 46
abbrev peE (c : Nat) : Prop := c = 42 ∨ c = 43 ∨ c = 63
abbrev peOk (L op bh c : Nat) : Prop := (((97 ≤ c ∧ c ≤ 100) ∨ (65 ≤ c ∧ c ≤ 68) ∨ c = 46) ∧ L < 20) ∨ (c = 40 ∧ op < 9) ∨ (c = 41 ∧ 0 < op) ∨ c = 124 ∨ ((c = 42 ∨ c = 43 ∨ c = 63) ∧ ¬ bh = 0)
/-- the error position of a pattern, from place i on, with letters, open ones, behind a sign -/
def peF (ch : Nat → Nat) (n : Nat) : Nat → Nat → Nat → Nat → Nat → Option Nat
  | 0, _, _, op, _ => if 0 < op then some n else none
  | f + 1, i, L, op, bh => if peOk L op bh (ch i) ∧ i < 40 then peF ch n f (i + 1) (L + if peA (ch i) then 1 else 0) (op + (if ch i = 40 then 1 else 0) - (if ch i = 41 then 1 else 0)) (if peA (ch i) ∨ ch i = 41 then 1 else 0) else some i
def pErr (ch : Nat → Nat) (n : Nat) : Option Nat := peF ch n n 0 0 0 0

set_option maxHeartbeats 4000000 in
set_option maxRecDepth 100000 in
theorem ct_patternError (G : mx_G) (I : mx_I) (o n : Nat) (ch : Nat → Nat) (hs : oTX G o) (hv : txN I o n ch) : mx_CTp yX7_patternError mX7_patternError 2 [.ref o] G I (some (.int (oI (pErr ch n)))) := by
  refine mx_start (k := 7) (by decide) rfl rfl (fun h => nomatch h) (Nat.le_of_ble_eq_true rfl) ?_
  show mx_V mX7_patternError mx_S0 2 0 0 0 [some (.ref o), none, none, none, none, none, none, none] [] G I (fun rv Gz Iz => rv = some (.int (oI (pErr ch n))) ∧ Gz = G ∧ Iz = I) (fun _ _ _ => False)
  obtain ⟨hg0, hg1, hg2, hg3⟩ := hs
  obtain ⟨hn, hv1, hch, hc8⟩ := hv
  have L9 : ∀ (fq : Nat) (i L op bh : Nat), n - i < fq → (i ≤ n) → (L ≤ i) → (op ≤ i) → (bh ≤ 1) → (pErr ch n = peF ch n (n - i) i L op bh) → mx_V mX7_patternError mx_S0 2 0 0 9 [some (.ref o), some (.int (nI L)), some (.int (nI op)), some (.int (nI bh)), some (.int (nI i)), none, none, none] [] G I (fun rv Gz Iz => rv = some (.int (oI (pErr ch n))) ∧ Gz = G ∧ Iz = I) (fun _ _ _ => False) := by
    intro fq
    induction fq with
    | zero => intro i L op bh hfu; exact absurd hfu (Nat.not_lt_zero _)
    | succ fq ih =>
      intro i L op bh hfu hi hL hop hbh hx
      have J25 : ∀ (_ : Unit), (i < n) → (ch i < 256) → mx_V mX7_patternError mx_S0 2 0 0 25 [some (.ref o), some (.int (nI L)), some (.int (nI op)), some (.int (nI bh)), some (.int (nI i)), none, none, none] [.int (nI (ch i))] G I (fun rv Gz Iz => rv = some (.int (oI (pErr ch n))) ∧ Gz = G ∧ Iz = I) (fun _ _ _ => False) := by
        intro _ hin hci
        have J170 : ∀ (_ : Unit), (peOk L op bh (ch i)) → (i < 40) → mx_V mX7_patternError mx_S0 2 0 0 170 [some (.ref o), some (.int (nI (L + if peA (ch i) then 1 else 0))), some (.int (nI (op + (if ch i = 40 then 1 else 0) - if ch i = 41 then 1 else 0))), some (.int (nI bh)), some (.int (nI i)), some (.int (nI (ch i))), some (.int (mx_b (decide ((97 ≤ ch i ∧ ch i ≤ 100) ∨ (65 ≤ ch i ∧ ch i ≤ 68) ∨ ch i = 46)))), some (.int (mx_b (decide (peOk L op bh (ch i)))))] [.int (nI (if peA (ch i) ∨ ch i = 41 then 1 else 0))] G I (fun rv Gz Iz => rv = some (.int (oI (pErr ch n))) ∧ Gz = G ∧ Iz = I) (fun _ _ _ => False) := by
          intro _ hPE hi40
          refine mx_istoreE_n (i := 3) (ls' := [some (.ref o), some (.int (nI (L + if peA (ch i) then 1 else 0))), some (.int (nI (op + (if ch i = 40 then 1 else 0) - if ch i = 41 then 1 else 0))), some (.int (nI (if peA (ch i) ∨ ch i = 41 then 1 else 0))), some (.int (nI i)), some (.int (nI (ch i))), some (.int (mx_b (decide ((97 ≤ ch i ∧ ch i ≤ 100) ∨ (65 ≤ ch i ∧ ch i ≤ 68) ∨ ch i = 46)))), some (.int (mx_b (decide (peOk L op bh (ch i)))))]) (hi := rfl) (hd := dX7_patternError_170) (hn := by decide) (hok := rfl) (hls := rfl) ?_
          refine mx_iincE (i := 4) (ls' := [some (.ref o), some (.int (nI (L + if peA (ch i) then 1 else 0))), some (.int (nI (op + (if ch i = 40 then 1 else 0) - if ch i = 41 then 1 else 0))), some (.int (nI (if peA (ch i) ∨ ch i = 41 then 1 else 0))), some (.int (nI (i + 1))), some (.int (nI (ch i))), some (.int (mx_b (decide ((97 ≤ ch i ∧ ch i ≤ 100) ∨ (65 ≤ ch i ∧ ch i ≤ 68) ∨ ch i = 46)))), some (.int (mx_b (decide (peOk L op bh (ch i)))))]) 1 dX7_patternError_171 rfl (by decide) (by decide) rfl rfl ?_
          refine mx_goto (tgt := 9) dX7_patternError_174 (by decide) ?_
          refine mx_leS (ls' := [some (.ref o), some (.int (nI (L + if peA (ch i) then 1 else 0))), some (.int (nI (op + (if ch i = 40 then 1 else 0) - if ch i = 41 then 1 else 0))), some (.int (nI (if peA (ch i) ∨ ch i = 41 then 1 else 0))), some (.int (nI (i + 1))), none, none, none]) ⟨rfl, rfl, rfl, rfl, rfl, trivial⟩ ?_
          exact ih (i + 1) _ _ _ (by omega) (by omega) (by split <;> omega) (by split <;> split <;> omega) (by split <;> omega) (by rw [hx, show n - i = n - (i + 1) + 1 by omega, peF, if_pos ⟨hPE, hi40⟩])
        have J151 : ∀ (_ : Unit), (peOk L op bh (ch i)) → (i < 40) → mx_V mX7_patternError mx_S0 2 0 0 151 [some (.ref o), some (.int (nI (L + if peA (ch i) then 1 else 0))), some (.int (nI (op + if ch i = 40 then 1 else 0))), some (.int (nI bh)), some (.int (nI i)), some (.int (nI (ch i))), some (.int (mx_b (decide ((97 ≤ ch i ∧ ch i ≤ 100) ∨ (65 ≤ ch i ∧ ch i ≤ 68) ∨ ch i = 46)))), some (.int (mx_b (decide (peOk L op bh (ch i)))))] [.int (nI (if ch i = 41 then 1 else 0)), .int (nI (op + if ch i = 40 then 1 else 0))] G I (fun rv Gz Iz => rv = some (.int (oI (pErr ch n))) ∧ Gz = G ∧ Iz = I) (fun _ _ _ => False) := by
          intro _ hPE hi40
          refine mx_isubN dX7_patternError_151 (by have := hPE; split <;> split <;> omega) ?_
          refine mx_istoreE_n (i := 2) (ls' := [some (.ref o), some (.int (nI (L + if peA (ch i) then 1 else 0))), some (.int (nI ((op + if ch i = 40 then 1 else 0) - (if ch i = 41 then 1 else 0)))), some (.int (nI bh)), some (.int (nI i)), some (.int (nI (ch i))), some (.int (mx_b (decide ((97 ≤ ch i ∧ ch i ≤ 100) ∨ (65 ≤ ch i ∧ ch i ≤ 68) ∨ ch i = 46)))), some (.int (mx_b (decide (peOk L op bh (ch i)))))]) (hi := rfl) (hd := dX7_patternError_152) (hn := by decide) (hok := rfl) (hls := rfl) ?_
          refine mx_iload (i := 6) (hl := rfl) (hd := dX7_patternError_153) ?_
          refine mx_ifB_ne 165 dX7_patternError_155 (by decide) (fun c155 => ?_) (fun c155 => ?_)
          · skip
            refine mx_iconstN 1 dX7_patternError_165 (by decide) ?_
            refine mx_goto (tgt := 170) dX7_patternError_166 (by decide) ?_
            refine mx_top (y := nI (if peA (ch i) ∨ ch i = 41 then 1 else 0)) (by rw [if_pos (by omega)]) ?_
            exact J170 () hPE hi40
          · skip
            refine mx_iload (i := 5) (hl := rfl) (hd := dX7_patternError_158) ?_
            refine mx_bipushN 41 dX7_patternError_160 (by decide) ?_
            refine mx_cmpN_ne 169 dX7_patternError_162 (by decide) (by omega) (by omega) (fun c162 => ?_) (fun c162 => ?_)
            · skip
              refine mx_iconstN 0 dX7_patternError_169 (by decide) ?_
              refine mx_top (y := nI (if peA (ch i) ∨ ch i = 41 then 1 else 0)) (by rw [if_neg (by omega)]) ?_
              exact J170 () hPE hi40
            · skip
              refine mx_iconstN 1 dX7_patternError_165 (by decide) ?_
              refine mx_goto (tgt := 170) dX7_patternError_166 (by decide) ?_
              refine mx_top (y := nI (if peA (ch i) ∨ ch i = 41 then 1 else 0)) (by rw [if_pos (by omega)]) ?_
              exact J170 () hPE hi40
        have J136 : ∀ (_ : Unit), (peOk L op bh (ch i)) → (i < 40) → mx_V mX7_patternError mx_S0 2 0 0 136 [some (.ref o), some (.int (nI (L + if peA (ch i) then 1 else 0))), some (.int (nI op)), some (.int (nI bh)), some (.int (nI i)), some (.int (nI (ch i))), some (.int (mx_b (decide ((97 ≤ ch i ∧ ch i ≤ 100) ∨ (65 ≤ ch i ∧ ch i ≤ 68) ∨ ch i = 46)))), some (.int (mx_b (decide (peOk L op bh (ch i)))))] [.int (nI (if ch i = 40 then 1 else 0)), .int (nI op)] G I (fun rv Gz Iz => rv = some (.int (oI (pErr ch n))) ∧ Gz = G ∧ Iz = I) (fun _ _ _ => False) := by
          intro _ hPE hi40
          refine mx_iaddN dX7_patternError_136 ?_
          refine mx_istoreE_n (i := 2) (ls' := [some (.ref o), some (.int (nI (L + if peA (ch i) then 1 else 0))), some (.int (nI (op + (if ch i = 40 then 1 else 0)))), some (.int (nI bh)), some (.int (nI i)), some (.int (nI (ch i))), some (.int (mx_b (decide ((97 ≤ ch i ∧ ch i ≤ 100) ∨ (65 ≤ ch i ∧ ch i ≤ 68) ∨ ch i = 46)))), some (.int (mx_b (decide (peOk L op bh (ch i)))))]) (hi := rfl) (hd := dX7_patternError_137) (hn := by decide) (hok := rfl) (hls := rfl) ?_
          refine mx_iload_n (i := 2) (hi := rfl) (hl := rfl) (hd := dX7_patternError_138) ?_
          refine mx_iload (i := 5) (hl := rfl) (hd := dX7_patternError_139) ?_
          refine mx_bipushN 41 dX7_patternError_141 (by decide) ?_
          refine mx_cmpN_ne 150 dX7_patternError_143 (by decide) (by omega) (by omega) (fun c143 => ?_) (fun c143 => ?_)
          · skip
            refine mx_iconstN 0 dX7_patternError_150 (by decide) ?_
            refine mx_top (y := nI (if ch i = 41 then 1 else 0)) (by rw [if_neg (by omega)]) ?_
            exact J151 () hPE hi40
          · skip
            refine mx_iconstN 1 dX7_patternError_146 (by decide) ?_
            refine mx_goto (tgt := 151) dX7_patternError_147 (by decide) ?_
            refine mx_top (y := nI (if ch i = 41 then 1 else 0)) (by rw [if_pos (by omega)]) ?_
            exact J151 () hPE hi40
        have J121 : ∀ (_ : Unit), (peOk L op bh (ch i)) → (i < 40) → mx_V mX7_patternError mx_S0 2 0 0 121 [some (.ref o), some (.int (nI L)), some (.int (nI op)), some (.int (nI bh)), some (.int (nI i)), some (.int (nI (ch i))), some (.int (mx_b (decide ((97 ≤ ch i ∧ ch i ≤ 100) ∨ (65 ≤ ch i ∧ ch i ≤ 68) ∨ ch i = 46)))), some (.int (mx_b (decide (peOk L op bh (ch i)))))] [.int (nI (if peA (ch i) then 1 else 0)), .int (nI L)] G I (fun rv Gz Iz => rv = some (.int (oI (pErr ch n))) ∧ Gz = G ∧ Iz = I) (fun _ _ _ => False) := by
          intro _ hPE hi40
          refine mx_iaddN dX7_patternError_121 ?_
          refine mx_istoreE_n (i := 1) (ls' := [some (.ref o), some (.int (nI (L + (if peA (ch i) then 1 else 0)))), some (.int (nI op)), some (.int (nI bh)), some (.int (nI i)), some (.int (nI (ch i))), some (.int (mx_b (decide ((97 ≤ ch i ∧ ch i ≤ 100) ∨ (65 ≤ ch i ∧ ch i ≤ 68) ∨ ch i = 46)))), some (.int (mx_b (decide (peOk L op bh (ch i)))))]) (hi := rfl) (hd := dX7_patternError_122) (hn := by decide) (hok := rfl) (hls := rfl) ?_
          refine mx_iload_n (i := 2) (hi := rfl) (hl := rfl) (hd := dX7_patternError_123) ?_
          refine mx_iload (i := 5) (hl := rfl) (hd := dX7_patternError_124) ?_
          refine mx_bipushN 40 dX7_patternError_126 (by decide) ?_
          refine mx_cmpN_ne 135 dX7_patternError_128 (by decide) (by omega) (by omega) (fun c128 => ?_) (fun c128 => ?_)
          · skip
            refine mx_iconstN 0 dX7_patternError_135 (by decide) ?_
            refine mx_top (y := nI (if ch i = 40 then 1 else 0)) (by rw [if_neg (by omega)]) ?_
            exact J136 () hPE hi40
          · skip
            refine mx_iconstN 1 dX7_patternError_131 (by decide) ?_
            refine mx_goto (tgt := 136) dX7_patternError_132 (by decide) ?_
            refine mx_top (y := nI (if ch i = 40 then 1 else 0)) (by rw [if_pos (by omega)]) ?_
            exact J136 () hPE hi40
        have J93 : ∀ (_ : Unit), mx_V mX7_patternError mx_S0 2 0 0 93 [some (.ref o), some (.int (nI L)), some (.int (nI op)), some (.int (nI bh)), some (.int (nI i)), some (.int (nI (ch i))), some (.int (mx_b (decide ((97 ≤ ch i ∧ ch i ≤ 100) ∨ (65 ≤ ch i ∧ ch i ≤ 68) ∨ ch i = 46)))), none] [.int (mx_b (decide (peOk L op bh (ch i))))] G I (fun rv Gz Iz => rv = some (.int (oI (pErr ch n))) ∧ Gz = G ∧ Iz = I) (fun _ _ _ => False) := by
          intro _ 
          refine mx_istoreE (i := 7) (ls' := [some (.ref o), some (.int (nI L)), some (.int (nI op)), some (.int (nI bh)), some (.int (nI i)), some (.int (nI (ch i))), some (.int (mx_b (decide ((97 ≤ ch i ∧ ch i ≤ 100) ∨ (65 ≤ ch i ∧ ch i ≤ 68) ∨ ch i = 46)))), some (.int (mx_b (decide (peOk L op bh (ch i)))))]) (hd := dX7_patternError_93) (hn := by decide) (hok := rfl) (hls := rfl) ?_
          refine mx_iload (i := 7) (hl := rfl) (hd := dX7_patternError_95) ?_
          refine mx_ifB_eq 107 dX7_patternError_97 (by decide) (fun c97 => ?_) (fun c97 => ?_)
          · skip
            refine mx_iload (i := 4) (hl := rfl) (hd := dX7_patternError_107) ?_
            exact mx_iret dX7_patternError_109 rfl rfl (⟨by rw [hx, show n - i = n - (i + 1) + 1 by omega, peF, if_neg (by first | exact fun z => c97 z.1 | omega)]; rfl, rfl, rfl⟩)
          · skip
            have hPE := c97
            refine mx_iload (i := 4) (hl := rfl) (hd := dX7_patternError_100) ?_
            refine mx_bipushN 40 dX7_patternError_102 (by decide) ?_
            refine mx_cmpN_lt 110 dX7_patternError_104 (by decide) (by omega) (by omega) (fun c104 => ?_) (fun c104 => ?_)
            · skip
              have hi40 := c104
              refine mx_iload_n (i := 1) (hi := rfl) (hl := rfl) (hd := dX7_patternError_110) ?_
              refine mx_iload (i := 6) (hl := rfl) (hd := dX7_patternError_111) ?_
              refine mx_ifB_eq 120 dX7_patternError_113 (by decide) (fun c113 => ?_) (fun c113 => ?_)
              · skip
                refine mx_iconstN 0 dX7_patternError_120 (by decide) ?_
                refine mx_top (y := nI (if peA (ch i) then 1 else 0)) (by rw [if_neg (by omega)]) ?_
                exact J121 () hPE hi40
              · skip
                refine mx_iconstN 1 dX7_patternError_116 (by decide) ?_
                refine mx_goto (tgt := 121) dX7_patternError_117 (by decide) ?_
                refine mx_top (y := nI (if peA (ch i) then 1 else 0)) (by rw [if_pos (by omega)]) ?_
                exact J121 () hPE hi40
            · skip
              refine mx_iload (i := 4) (hl := rfl) (hd := dX7_patternError_107) ?_
              exact mx_iret dX7_patternError_109 rfl rfl (⟨by rw [hx, show n - i = n - (i + 1) + 1 by omega, peF, if_neg (by first | exact fun z => c97 z.1 | omega)]; rfl, rfl, rfl⟩)
        refine mx_istoreE (i := 5) (ls' := [some (.ref o), some (.int (nI L)), some (.int (nI op)), some (.int (nI bh)), some (.int (nI i)), some (.int (nI (ch i))), none, none]) (hd := dX7_patternError_25) (hn := by decide) (hok := rfl) (hls := rfl) ?_
        refine mx_iload (i := 5) (hl := rfl) (hd := dX7_patternError_27) ?_
        refine mx_callSp (As := [.int (nI (ch i))]) (rest := []) dX7_patternError_29 (ct_isLetter G I (ch i) (by omega)) km_X2_isLetter rfl k_809 k_810 rfl rfl (Nat.le_of_ble_eq_true rfl) (by decide) ?_
        refine mx_istoreE (i := 6) (ls' := [some (.ref o), some (.int (nI L)), some (.int (nI op)), some (.int (nI bh)), some (.int (nI i)), some (.int (nI (ch i))), some (.int (mx_b (decide ((97 ≤ ch i ∧ ch i ≤ 100) ∨ (65 ≤ ch i ∧ ch i ≤ 68) ∨ ch i = 46)))), none]) (hd := dX7_patternError_32) (hn := by decide) (hok := rfl) (hls := rfl) ?_
        refine mx_iload (i := 6) (hl := rfl) (hd := dX7_patternError_34) ?_
        refine mx_ifB_eq 45 dX7_patternError_36 (by decide) (fun c36 => ?_) (fun c36 => ?_)
        · skip
          refine mx_iload (i := 5) (hl := rfl) (hd := dX7_patternError_45) ?_
          refine mx_bipushN 40 dX7_patternError_47 (by decide) ?_
          refine mx_cmpN_ne 58 dX7_patternError_49 (by decide) (by omega) (by omega) (fun c49 => ?_) (fun c49 => ?_)
          · skip
            refine mx_iload (i := 5) (hl := rfl) (hd := dX7_patternError_58) ?_
            refine mx_bipushN 41 dX7_patternError_60 (by decide) ?_
            refine mx_cmpN_ne 69 dX7_patternError_62 (by decide) (by omega) (by omega) (fun c62 => ?_) (fun c62 => ?_)
            · skip
              refine mx_iload (i := 5) (hl := rfl) (hd := dX7_patternError_69) ?_
              refine mx_bipushN 124 dX7_patternError_71 (by decide) ?_
              refine mx_cmpN_eq 88 dX7_patternError_73 (by decide) (by omega) (by omega) (fun c73 => ?_) (fun c73 => ?_)
              · skip
                refine mx_iconstN 1 dX7_patternError_88 (by decide) ?_
                refine mx_goto (tgt := 93) dX7_patternError_89 (by decide) ?_
                refine mx_top (y := mx_b (decide (peOk L op bh (ch i)))) (mx_bT (by omega)) ?_
                exact J93 ()
              · skip
                refine mx_iload (i := 5) (hl := rfl) (hd := dX7_patternError_76) ?_
                refine mx_callSp (As := [.int (nI (ch i))]) (rest := []) dX7_patternError_78 (ct_isEnding G I (ch i) (by omega)) km_X2_isEnding rfl k_812 k_813 rfl rfl (Nat.le_of_ble_eq_true rfl) (by decide) ?_
                refine mx_ifB_eq 92 dX7_patternError_81 (by decide) (fun c81 => ?_) (fun c81 => ?_)
                · skip
                  refine mx_iconstN 0 dX7_patternError_92 (by decide) ?_
                  refine mx_top (y := mx_b (decide (peOk L op bh (ch i)))) (mx_bF (by omega)) ?_
                  exact J93 ()
                · skip
                  refine mx_iload_n (i := 3) (hi := rfl) (hl := rfl) (hd := dX7_patternError_84) ?_
                  refine mx_ifN_eq 92 dX7_patternError_85 (by decide) (by omega) (fun c85 => ?_) (fun c85 => ?_)
                  · skip
                    refine mx_iconstN 0 dX7_patternError_92 (by decide) ?_
                    refine mx_top (y := mx_b (decide (peOk L op bh (ch i)))) (mx_bF (by omega)) ?_
                    exact J93 ()
                  · skip
                    refine mx_iconstN 1 dX7_patternError_88 (by decide) ?_
                    refine mx_goto (tgt := 93) dX7_patternError_89 (by decide) ?_
                    refine mx_top (y := mx_b (decide (peOk L op bh (ch i)))) (mx_bT (by omega)) ?_
                    exact J93 ()
            · skip
              refine mx_iload_n (i := 2) (hi := rfl) (hl := rfl) (hd := dX7_patternError_65) ?_
              refine mx_ifN_gt 88 dX7_patternError_66 (by decide) (by omega) (fun c66 => ?_) (fun c66 => ?_)
              · skip
                refine mx_iconstN 1 dX7_patternError_88 (by decide) ?_
                refine mx_goto (tgt := 93) dX7_patternError_89 (by decide) ?_
                refine mx_top (y := mx_b (decide (peOk L op bh (ch i)))) (mx_bT (by omega)) ?_
                exact J93 ()
              · skip
                refine mx_iload (i := 5) (hl := rfl) (hd := dX7_patternError_69) ?_
                refine mx_bipushN 124 dX7_patternError_71 (by decide) ?_
                refine mx_cmpN_eq 88 dX7_patternError_73 (by decide) (by omega) (by omega) (fun c73 => ?_) (fun c73 => ?_)
                · skip
                  refine mx_iconstN 1 dX7_patternError_88 (by decide) ?_
                  refine mx_goto (tgt := 93) dX7_patternError_89 (by decide) ?_
                  refine mx_top (y := mx_b (decide (peOk L op bh (ch i)))) (mx_bT (by omega)) ?_
                  exact J93 ()
                · skip
                  refine mx_iload (i := 5) (hl := rfl) (hd := dX7_patternError_76) ?_
                  refine mx_callSp (As := [.int (nI (ch i))]) (rest := []) dX7_patternError_78 (ct_isEnding G I (ch i) (by omega)) km_X2_isEnding rfl k_812 k_813 rfl rfl (Nat.le_of_ble_eq_true rfl) (by decide) ?_
                  refine mx_ifB_eq 92 dX7_patternError_81 (by decide) (fun c81 => ?_) (fun c81 => ?_)
                  · skip
                    refine mx_iconstN 0 dX7_patternError_92 (by decide) ?_
                    refine mx_top (y := mx_b (decide (peOk L op bh (ch i)))) (mx_bF (by omega)) ?_
                    exact J93 ()
                  · skip
                    refine mx_iload_n (i := 3) (hi := rfl) (hl := rfl) (hd := dX7_patternError_84) ?_
                    refine mx_ifN_eq 92 dX7_patternError_85 (by decide) (by omega) (fun c85 => ?_) (fun c85 => ?_)
                    · skip
                      refine mx_iconstN 0 dX7_patternError_92 (by decide) ?_
                      refine mx_top (y := mx_b (decide (peOk L op bh (ch i)))) (mx_bF (by omega)) ?_
                      exact J93 ()
                    · skip
                      refine mx_iconstN 1 dX7_patternError_88 (by decide) ?_
                      refine mx_goto (tgt := 93) dX7_patternError_89 (by decide) ?_
                      refine mx_top (y := mx_b (decide (peOk L op bh (ch i)))) (mx_bT (by omega)) ?_
                      exact J93 ()
          · skip
            refine mx_iload_n (i := 2) (hi := rfl) (hl := rfl) (hd := dX7_patternError_52) ?_
            refine mx_bipushN 9 dX7_patternError_53 (by decide) ?_
            refine mx_cmpN_lt 88 dX7_patternError_55 (by decide) (by omega) (by omega) (fun c55 => ?_) (fun c55 => ?_)
            · skip
              refine mx_iconstN 1 dX7_patternError_88 (by decide) ?_
              refine mx_goto (tgt := 93) dX7_patternError_89 (by decide) ?_
              refine mx_top (y := mx_b (decide (peOk L op bh (ch i)))) (mx_bT (by omega)) ?_
              exact J93 ()
            · skip
              refine mx_iload (i := 5) (hl := rfl) (hd := dX7_patternError_58) ?_
              refine mx_bipushN 41 dX7_patternError_60 (by decide) ?_
              refine mx_cmpN_ne 69 dX7_patternError_62 (by decide) (by omega) (by omega) (fun c62 => ?_) (fun c62 => ?_)
              · skip
                refine mx_iload (i := 5) (hl := rfl) (hd := dX7_patternError_69) ?_
                refine mx_bipushN 124 dX7_patternError_71 (by decide) ?_
                refine mx_cmpN_eq 88 dX7_patternError_73 (by decide) (by omega) (by omega) (fun c73 => ?_) (fun c73 => ?_)
                · skip
                  refine mx_iconstN 1 dX7_patternError_88 (by decide) ?_
                  refine mx_goto (tgt := 93) dX7_patternError_89 (by decide) ?_
                  refine mx_top (y := mx_b (decide (peOk L op bh (ch i)))) (mx_bT (by omega)) ?_
                  exact J93 ()
                · skip
                  refine mx_iload (i := 5) (hl := rfl) (hd := dX7_patternError_76) ?_
                  refine mx_callSp (As := [.int (nI (ch i))]) (rest := []) dX7_patternError_78 (ct_isEnding G I (ch i) (by omega)) km_X2_isEnding rfl k_812 k_813 rfl rfl (Nat.le_of_ble_eq_true rfl) (by decide) ?_
                  refine mx_ifB_eq 92 dX7_patternError_81 (by decide) (fun c81 => ?_) (fun c81 => ?_)
                  · skip
                    refine mx_iconstN 0 dX7_patternError_92 (by decide) ?_
                    refine mx_top (y := mx_b (decide (peOk L op bh (ch i)))) (mx_bF (by omega)) ?_
                    exact J93 ()
                  · skip
                    refine mx_iload_n (i := 3) (hi := rfl) (hl := rfl) (hd := dX7_patternError_84) ?_
                    refine mx_ifN_eq 92 dX7_patternError_85 (by decide) (by omega) (fun c85 => ?_) (fun c85 => ?_)
                    · skip
                      refine mx_iconstN 0 dX7_patternError_92 (by decide) ?_
                      refine mx_top (y := mx_b (decide (peOk L op bh (ch i)))) (mx_bF (by omega)) ?_
                      exact J93 ()
                    · skip
                      refine mx_iconstN 1 dX7_patternError_88 (by decide) ?_
                      refine mx_goto (tgt := 93) dX7_patternError_89 (by decide) ?_
                      refine mx_top (y := mx_b (decide (peOk L op bh (ch i)))) (mx_bT (by omega)) ?_
                      exact J93 ()
              · skip
                refine mx_iload_n (i := 2) (hi := rfl) (hl := rfl) (hd := dX7_patternError_65) ?_
                refine mx_ifN_gt 88 dX7_patternError_66 (by decide) (by omega) (fun c66 => ?_) (fun c66 => ?_)
                · skip
                  refine mx_iconstN 1 dX7_patternError_88 (by decide) ?_
                  refine mx_goto (tgt := 93) dX7_patternError_89 (by decide) ?_
                  refine mx_top (y := mx_b (decide (peOk L op bh (ch i)))) (mx_bT (by omega)) ?_
                  exact J93 ()
                · skip
                  refine mx_iload (i := 5) (hl := rfl) (hd := dX7_patternError_69) ?_
                  refine mx_bipushN 124 dX7_patternError_71 (by decide) ?_
                  refine mx_cmpN_eq 88 dX7_patternError_73 (by decide) (by omega) (by omega) (fun c73 => ?_) (fun c73 => ?_)
                  · skip
                    refine mx_iconstN 1 dX7_patternError_88 (by decide) ?_
                    refine mx_goto (tgt := 93) dX7_patternError_89 (by decide) ?_
                    refine mx_top (y := mx_b (decide (peOk L op bh (ch i)))) (mx_bT (by omega)) ?_
                    exact J93 ()
                  · skip
                    refine mx_iload (i := 5) (hl := rfl) (hd := dX7_patternError_76) ?_
                    refine mx_callSp (As := [.int (nI (ch i))]) (rest := []) dX7_patternError_78 (ct_isEnding G I (ch i) (by omega)) km_X2_isEnding rfl k_812 k_813 rfl rfl (Nat.le_of_ble_eq_true rfl) (by decide) ?_
                    refine mx_ifB_eq 92 dX7_patternError_81 (by decide) (fun c81 => ?_) (fun c81 => ?_)
                    · skip
                      refine mx_iconstN 0 dX7_patternError_92 (by decide) ?_
                      refine mx_top (y := mx_b (decide (peOk L op bh (ch i)))) (mx_bF (by omega)) ?_
                      exact J93 ()
                    · skip
                      refine mx_iload_n (i := 3) (hi := rfl) (hl := rfl) (hd := dX7_patternError_84) ?_
                      refine mx_ifN_eq 92 dX7_patternError_85 (by decide) (by omega) (fun c85 => ?_) (fun c85 => ?_)
                      · skip
                        refine mx_iconstN 0 dX7_patternError_92 (by decide) ?_
                        refine mx_top (y := mx_b (decide (peOk L op bh (ch i)))) (mx_bF (by omega)) ?_
                        exact J93 ()
                      · skip
                        refine mx_iconstN 1 dX7_patternError_88 (by decide) ?_
                        refine mx_goto (tgt := 93) dX7_patternError_89 (by decide) ?_
                        refine mx_top (y := mx_b (decide (peOk L op bh (ch i)))) (mx_bT (by omega)) ?_
                        exact J93 ()
        · skip
          refine mx_iload_n (i := 1) (hi := rfl) (hl := rfl) (hd := dX7_patternError_39) ?_
          refine mx_bipushN 20 dX7_patternError_40 (by decide) ?_
          refine mx_cmpN_lt 88 dX7_patternError_42 (by decide) (by omega) (by omega) (fun c42 => ?_) (fun c42 => ?_)
          · skip
            refine mx_iconstN 1 dX7_patternError_88 (by decide) ?_
            refine mx_goto (tgt := 93) dX7_patternError_89 (by decide) ?_
            refine mx_top (y := mx_b (decide (peOk L op bh (ch i)))) (mx_bT (by omega)) ?_
            exact J93 ()
          · skip
            refine mx_iload (i := 5) (hl := rfl) (hd := dX7_patternError_45) ?_
            refine mx_bipushN 40 dX7_patternError_47 (by decide) ?_
            refine mx_cmpN_ne 58 dX7_patternError_49 (by decide) (by omega) (by omega) (fun c49 => ?_) (fun c49 => ?_)
            · skip
              refine mx_iload (i := 5) (hl := rfl) (hd := dX7_patternError_58) ?_
              refine mx_bipushN 41 dX7_patternError_60 (by decide) ?_
              refine mx_cmpN_ne 69 dX7_patternError_62 (by decide) (by omega) (by omega) (fun c62 => ?_) (fun c62 => ?_)
              · skip
                refine mx_iload (i := 5) (hl := rfl) (hd := dX7_patternError_69) ?_
                refine mx_bipushN 124 dX7_patternError_71 (by decide) ?_
                refine mx_cmpN_eq 88 dX7_patternError_73 (by decide) (by omega) (by omega) (fun c73 => ?_) (fun c73 => ?_)
                · skip
                  refine mx_iconstN 1 dX7_patternError_88 (by decide) ?_
                  refine mx_goto (tgt := 93) dX7_patternError_89 (by decide) ?_
                  refine mx_top (y := mx_b (decide (peOk L op bh (ch i)))) (mx_bT (by omega)) ?_
                  exact J93 ()
                · skip
                  refine mx_iload (i := 5) (hl := rfl) (hd := dX7_patternError_76) ?_
                  refine mx_callSp (As := [.int (nI (ch i))]) (rest := []) dX7_patternError_78 (ct_isEnding G I (ch i) (by omega)) km_X2_isEnding rfl k_812 k_813 rfl rfl (Nat.le_of_ble_eq_true rfl) (by decide) ?_
                  refine mx_ifB_eq 92 dX7_patternError_81 (by decide) (fun c81 => ?_) (fun c81 => ?_)
                  · skip
                    refine mx_iconstN 0 dX7_patternError_92 (by decide) ?_
                    refine mx_top (y := mx_b (decide (peOk L op bh (ch i)))) (mx_bF (by omega)) ?_
                    exact J93 ()
                  · skip
                    refine mx_iload_n (i := 3) (hi := rfl) (hl := rfl) (hd := dX7_patternError_84) ?_
                    refine mx_ifN_eq 92 dX7_patternError_85 (by decide) (by omega) (fun c85 => ?_) (fun c85 => ?_)
                    · skip
                      refine mx_iconstN 0 dX7_patternError_92 (by decide) ?_
                      refine mx_top (y := mx_b (decide (peOk L op bh (ch i)))) (mx_bF (by omega)) ?_
                      exact J93 ()
                    · skip
                      refine mx_iconstN 1 dX7_patternError_88 (by decide) ?_
                      refine mx_goto (tgt := 93) dX7_patternError_89 (by decide) ?_
                      refine mx_top (y := mx_b (decide (peOk L op bh (ch i)))) (mx_bT (by omega)) ?_
                      exact J93 ()
              · skip
                refine mx_iload_n (i := 2) (hi := rfl) (hl := rfl) (hd := dX7_patternError_65) ?_
                refine mx_ifN_gt 88 dX7_patternError_66 (by decide) (by omega) (fun c66 => ?_) (fun c66 => ?_)
                · skip
                  refine mx_iconstN 1 dX7_patternError_88 (by decide) ?_
                  refine mx_goto (tgt := 93) dX7_patternError_89 (by decide) ?_
                  refine mx_top (y := mx_b (decide (peOk L op bh (ch i)))) (mx_bT (by omega)) ?_
                  exact J93 ()
                · skip
                  refine mx_iload (i := 5) (hl := rfl) (hd := dX7_patternError_69) ?_
                  refine mx_bipushN 124 dX7_patternError_71 (by decide) ?_
                  refine mx_cmpN_eq 88 dX7_patternError_73 (by decide) (by omega) (by omega) (fun c73 => ?_) (fun c73 => ?_)
                  · skip
                    refine mx_iconstN 1 dX7_patternError_88 (by decide) ?_
                    refine mx_goto (tgt := 93) dX7_patternError_89 (by decide) ?_
                    refine mx_top (y := mx_b (decide (peOk L op bh (ch i)))) (mx_bT (by omega)) ?_
                    exact J93 ()
                  · skip
                    refine mx_iload (i := 5) (hl := rfl) (hd := dX7_patternError_76) ?_
                    refine mx_callSp (As := [.int (nI (ch i))]) (rest := []) dX7_patternError_78 (ct_isEnding G I (ch i) (by omega)) km_X2_isEnding rfl k_812 k_813 rfl rfl (Nat.le_of_ble_eq_true rfl) (by decide) ?_
                    refine mx_ifB_eq 92 dX7_patternError_81 (by decide) (fun c81 => ?_) (fun c81 => ?_)
                    · skip
                      refine mx_iconstN 0 dX7_patternError_92 (by decide) ?_
                      refine mx_top (y := mx_b (decide (peOk L op bh (ch i)))) (mx_bF (by omega)) ?_
                      exact J93 ()
                    · skip
                      refine mx_iload_n (i := 3) (hi := rfl) (hl := rfl) (hd := dX7_patternError_84) ?_
                      refine mx_ifN_eq 92 dX7_patternError_85 (by decide) (by omega) (fun c85 => ?_) (fun c85 => ?_)
                      · skip
                        refine mx_iconstN 0 dX7_patternError_92 (by decide) ?_
                        refine mx_top (y := mx_b (decide (peOk L op bh (ch i)))) (mx_bF (by omega)) ?_
                        exact J93 ()
                      · skip
                        refine mx_iconstN 1 dX7_patternError_88 (by decide) ?_
                        refine mx_goto (tgt := 93) dX7_patternError_89 (by decide) ?_
                        refine mx_top (y := mx_b (decide (peOk L op bh (ch i)))) (mx_bT (by omega)) ?_
                        exact J93 ()
            · skip
              refine mx_iload_n (i := 2) (hi := rfl) (hl := rfl) (hd := dX7_patternError_52) ?_
              refine mx_bipushN 9 dX7_patternError_53 (by decide) ?_
              refine mx_cmpN_lt 88 dX7_patternError_55 (by decide) (by omega) (by omega) (fun c55 => ?_) (fun c55 => ?_)
              · skip
                refine mx_iconstN 1 dX7_patternError_88 (by decide) ?_
                refine mx_goto (tgt := 93) dX7_patternError_89 (by decide) ?_
                refine mx_top (y := mx_b (decide (peOk L op bh (ch i)))) (mx_bT (by omega)) ?_
                exact J93 ()
              · skip
                refine mx_iload (i := 5) (hl := rfl) (hd := dX7_patternError_58) ?_
                refine mx_bipushN 41 dX7_patternError_60 (by decide) ?_
                refine mx_cmpN_ne 69 dX7_patternError_62 (by decide) (by omega) (by omega) (fun c62 => ?_) (fun c62 => ?_)
                · skip
                  refine mx_iload (i := 5) (hl := rfl) (hd := dX7_patternError_69) ?_
                  refine mx_bipushN 124 dX7_patternError_71 (by decide) ?_
                  refine mx_cmpN_eq 88 dX7_patternError_73 (by decide) (by omega) (by omega) (fun c73 => ?_) (fun c73 => ?_)
                  · skip
                    refine mx_iconstN 1 dX7_patternError_88 (by decide) ?_
                    refine mx_goto (tgt := 93) dX7_patternError_89 (by decide) ?_
                    refine mx_top (y := mx_b (decide (peOk L op bh (ch i)))) (mx_bT (by omega)) ?_
                    exact J93 ()
                  · skip
                    refine mx_iload (i := 5) (hl := rfl) (hd := dX7_patternError_76) ?_
                    refine mx_callSp (As := [.int (nI (ch i))]) (rest := []) dX7_patternError_78 (ct_isEnding G I (ch i) (by omega)) km_X2_isEnding rfl k_812 k_813 rfl rfl (Nat.le_of_ble_eq_true rfl) (by decide) ?_
                    refine mx_ifB_eq 92 dX7_patternError_81 (by decide) (fun c81 => ?_) (fun c81 => ?_)
                    · skip
                      refine mx_iconstN 0 dX7_patternError_92 (by decide) ?_
                      refine mx_top (y := mx_b (decide (peOk L op bh (ch i)))) (mx_bF (by omega)) ?_
                      exact J93 ()
                    · skip
                      refine mx_iload_n (i := 3) (hi := rfl) (hl := rfl) (hd := dX7_patternError_84) ?_
                      refine mx_ifN_eq 92 dX7_patternError_85 (by decide) (by omega) (fun c85 => ?_) (fun c85 => ?_)
                      · skip
                        refine mx_iconstN 0 dX7_patternError_92 (by decide) ?_
                        refine mx_top (y := mx_b (decide (peOk L op bh (ch i)))) (mx_bF (by omega)) ?_
                        exact J93 ()
                      · skip
                        refine mx_iconstN 1 dX7_patternError_88 (by decide) ?_
                        refine mx_goto (tgt := 93) dX7_patternError_89 (by decide) ?_
                        refine mx_top (y := mx_b (decide (peOk L op bh (ch i)))) (mx_bT (by omega)) ?_
                        exact J93 ()
                · skip
                  refine mx_iload_n (i := 2) (hi := rfl) (hl := rfl) (hd := dX7_patternError_65) ?_
                  refine mx_ifN_gt 88 dX7_patternError_66 (by decide) (by omega) (fun c66 => ?_) (fun c66 => ?_)
                  · skip
                    refine mx_iconstN 1 dX7_patternError_88 (by decide) ?_
                    refine mx_goto (tgt := 93) dX7_patternError_89 (by decide) ?_
                    refine mx_top (y := mx_b (decide (peOk L op bh (ch i)))) (mx_bT (by omega)) ?_
                    exact J93 ()
                  · skip
                    refine mx_iload (i := 5) (hl := rfl) (hd := dX7_patternError_69) ?_
                    refine mx_bipushN 124 dX7_patternError_71 (by decide) ?_
                    refine mx_cmpN_eq 88 dX7_patternError_73 (by decide) (by omega) (by omega) (fun c73 => ?_) (fun c73 => ?_)
                    · skip
                      refine mx_iconstN 1 dX7_patternError_88 (by decide) ?_
                      refine mx_goto (tgt := 93) dX7_patternError_89 (by decide) ?_
                      refine mx_top (y := mx_b (decide (peOk L op bh (ch i)))) (mx_bT (by omega)) ?_
                      exact J93 ()
                    · skip
                      refine mx_iload (i := 5) (hl := rfl) (hd := dX7_patternError_76) ?_
                      refine mx_callSp (As := [.int (nI (ch i))]) (rest := []) dX7_patternError_78 (ct_isEnding G I (ch i) (by omega)) km_X2_isEnding rfl k_812 k_813 rfl rfl (Nat.le_of_ble_eq_true rfl) (by decide) ?_
                      refine mx_ifB_eq 92 dX7_patternError_81 (by decide) (fun c81 => ?_) (fun c81 => ?_)
                      · skip
                        refine mx_iconstN 0 dX7_patternError_92 (by decide) ?_
                        refine mx_top (y := mx_b (decide (peOk L op bh (ch i)))) (mx_bF (by omega)) ?_
                        exact J93 ()
                      · skip
                        refine mx_iload_n (i := 3) (hi := rfl) (hl := rfl) (hd := dX7_patternError_84) ?_
                        refine mx_ifN_eq 92 dX7_patternError_85 (by decide) (by omega) (fun c85 => ?_) (fun c85 => ?_)
                        · skip
                          refine mx_iconstN 0 dX7_patternError_92 (by decide) ?_
                          refine mx_top (y := mx_b (decide (peOk L op bh (ch i)))) (mx_bF (by omega)) ?_
                          exact J93 ()
                        · skip
                          refine mx_iconstN 1 dX7_patternError_88 (by decide) ?_
                          refine mx_goto (tgt := 93) dX7_patternError_89 (by decide) ?_
                          refine mx_top (y := mx_b (decide (peOk L op bh (ch i)))) (mx_bT (by omega)) ?_
                          exact J93 ()
      refine mx_iload (i := 4) (hl := rfl) (hd := dX7_patternError_9) ?_
      refine mx_aload_n (i := 0) (hi := rfl) (hl := rfl) (hd := dX7_patternError_11) ?_
      refine mx_getV (ci := 7) (k := 1) (nI n) dX7_patternError_12 k_65 (by decide) rfl (by assumption) hv1 ?_
      refine mx_cmpN_ge 177 dX7_patternError_15 (by decide) (by omega) (by omega) (fun c15 => ?_) (fun c15 => ?_)
      · skip
        refine mx_iload_n (i := 2) (hi := rfl) (hl := rfl) (hd := dX7_patternError_177) ?_
        refine mx_ifN_le 188 dX7_patternError_178 (by decide) (by omega) (fun c178 => ?_) (fun c178 => ?_)
        · skip
          refine mx_bipush (v := (-9)) (by decide) dX7_patternError_188 ?_
          exact mx_iret dX7_patternError_190 rfl rfl (⟨by rw [hx, show n - i = 0 by omega, peF, if_neg (by omega)]; rfl, rfl, rfl⟩)
        · skip
          refine mx_aload_n (i := 0) (hi := rfl) (hl := rfl) (hd := dX7_patternError_181) ?_
          refine mx_getV (ci := 7) (k := 1) (nI n) dX7_patternError_182 k_65 (by decide) rfl (by assumption) hv1 ?_
          refine mx_goto (tgt := 190) dX7_patternError_185 (by decide) ?_
          exact mx_iret dX7_patternError_190 rfl rfl (⟨by rw [hx, show n - i = 0 by omega, peF, if_pos (by omega)]; rfl, rfl, rfl⟩)
      · skip
        refine mx_aload_n (i := 0) (hi := rfl) (hl := rfl) (hd := dX7_patternError_18) ?_
        refine mx_getR (ci := 7) (k := 0) (r := (o + 1)) dX7_patternError_19 k_62 (by decide) rfl (by assumption) (by assumption) (by omega) ?_
        refine mx_iload (i := 4) (hl := rfl) (hd := dX7_patternError_22) ?_
        refine mx_caldV i (nI (ch i)) dX7_patternError_24 (by assumption) ⟨rfl, by omega, by omega⟩ (hch i (by omega)) ?_
        exact J25 () (by omega) (hc8 i (by omega))
  refine mx_iconstN 0 dX7_patternError_0 (by decide) ?_
  refine mx_istoreE_n (i := 1) (ls' := [some (.ref o), some (.int (nI 0)), none, none, none, none, none, none]) (hi := rfl) (hd := dX7_patternError_1) (hn := by decide) (hok := rfl) (hls := rfl) ?_
  refine mx_iconstN 0 dX7_patternError_2 (by decide) ?_
  refine mx_istoreE_n (i := 2) (ls' := [some (.ref o), some (.int (nI 0)), some (.int (nI 0)), none, none, none, none, none]) (hi := rfl) (hd := dX7_patternError_3) (hn := by decide) (hok := rfl) (hls := rfl) ?_
  refine mx_iconstN 0 dX7_patternError_4 (by decide) ?_
  refine mx_istoreE_n (i := 3) (ls' := [some (.ref o), some (.int (nI 0)), some (.int (nI 0)), some (.int (nI 0)), none, none, none, none]) (hi := rfl) (hd := dX7_patternError_5) (hn := by decide) (hok := rfl) (hls := rfl) ?_
  refine mx_iconstN 0 dX7_patternError_6 (by decide) ?_
  refine mx_istoreE (i := 4) (ls' := [some (.ref o), some (.int (nI 0)), some (.int (nI 0)), some (.int (nI 0)), some (.int (nI 0)), none, none, none]) (hd := dX7_patternError_7) (hn := by decide) (hok := rfl) (hls := rfl) ?_
  exact L9 _ 0 0 0 0 (Nat.lt_succ_self _) (Nat.zero_le _) (Nat.le_refl _) (Nat.le_refl _) (by decide) rfl
