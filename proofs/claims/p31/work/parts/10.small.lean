/-! Pattern.place, Piece, Wheel -/
def plC (c j : Nat) : Prop := (j < 4 ∧ (c = 46 ∨ c = 97 + j)) ∨ (4 ≤ j ∧ c = 65 + (j - 4))
def plf (g : Nat → Nat) (c b k j : Nat) : Nat := if (j < 4 ∧ j < k ∧ (c = 46 ∨ c = 97 + j)) ∨ (4 ≤ j ∧ j - 4 < k ∧ c = 65 + (j - 4)) then g j ||| b else g j
theorem plf_lo (g : Nat → Nat) (c b k : Nat) (hk : k < 4) : plf g c b k k = g k := by unfold plf; rw [if_neg (by omega)]
theorem plf_hi (g : Nat → Nat) (c b k : Nat) (hk : k < 4) : plf g c b k (4 + k) = g (4 + k) := by unfold plf; rw [if_neg (by omega)]
/-- one turn: lo told, then hi told -/
theorem plf_st (g : Nat → Nat) {c b k : Nat} (hk : k < 4) {p q : Bool} (h1 : p = true ↔ (c = 46 ∨ c = 97 + k)) (h2 : q = true ↔ c = 65 + k) (j : Nat) : (if q = true ∧ j = 4 + k then g (4 + k) ||| b else if p = true ∧ j = k then g k ||| b else plf g c b k j) = plf g c b (k + 1) j := by
  unfold plf
  by_cases e1 : j = 4 + k
  · subst e1
    by_cases hq : q = true
    · rw [if_pos ⟨hq, rfl⟩, if_pos (Or.inr ⟨by omega, by omega, by have := h2.mp hq; omega⟩)]
    · rw [if_neg (fun x => hq x.1), if_neg (by omega), if_neg (by omega), if_neg (fun x => hq (h2.mpr (by omega)))]
  · rw [if_neg (fun x => e1 x.2)]
    by_cases e2 : j = k
    · subst e2
      by_cases hp : p = true
      · rw [if_pos ⟨hp, rfl⟩, if_pos (Or.inl ⟨hk, by omega, h1.mp hp⟩)]
      · rw [if_neg (fun x => hp x.1), if_neg (by omega), if_neg (fun x => x.elim (fun x => hp (h1.mpr x.2.2)) (fun x => by omega))]
    · rw [if_neg (fun x => e2 x.2)]
      by_cases cc : (j < 4 ∧ j < k ∧ (c = 46 ∨ c = 97 + j)) ∨ (4 ≤ j ∧ j - 4 < k ∧ c = 65 + (j - 4))
      · rw [if_pos cc, if_pos (by omega)]
      · rw [if_neg cc, if_neg (by omega)]
def pPlace (A : Pa) (c : Nat) : Pa := (pL A + 1, pA A, pB A, plf (pE A) c (2 ^ (pL A + 1)) 4, pAc A, pSz A, pCh A)
theorem wfP.place {A : Pa} (h : wfP A) (c : Nat) (hL : pL A < 20) : wfP (pPlace A c) := by
  obtain ⟨a1, a2, a3, a4, a5⟩ := h
  have hb : 2 ^ (pL A + 1) < 2 ^ 21 := Nat.pow_lt_pow_right (by decide) (by omega)
  refine ⟨by show pL A + 1 ≤ 20; omega, a2, a3, fun i hi => ?_, a5⟩
  show plf (pE A) c (2 ^ (pL A + 1)) 4 i < 2 ^ 21
  unfold plf
  split
  · exact mx_or_lt (a4 i hi) hb
  · exact a4 i hi

set_option maxHeartbeats 4000000 in
set_option maxRecDepth 100000 in
theorem ct_place (G : mx_G) (I : mx_I) (o : Nat) (A : Pa) (hs : oPT G o) (hv : ptN I o A) (c : Nat) (hc : c < 65536) (hL : pL A < 20) : mx_CTi yX2_place mX2_place 1 [.ref o, .int (nI c)] G I (fun rv I1 => rv = some (.int (nI (2 ^ (pL A + 1)))) ∧ ptN I1 o (pPlace A c) ∧ mx_fr I I1 o (o + 5)) := by
  refine mx_start (k := 2) (by decide) rfl rfl (fun h => nomatch h) (Nat.le_of_ble_eq_true rfl) ?_
  show mx_V mX2_place mx_S0 1 0 0 0 [some (.ref o), some (.int (nI c)), none, none] [] G I (fun rv Gz Iz => (fun rv I1 => rv = some (.int (nI (2 ^ (pL A + 1)))) ∧ ptN I1 o (pPlace A c) ∧ mx_fr I I1 o (o + 5)) rv Iz ∧ Gz = G) (fun _ _ _ => False)
  have hw := hv.1
  obtain ⟨hg0, ⟨hg2, hg3, hg4⟩, ⟨hg5, hg6, hg7⟩, ⟨hg8, hg9, hg10⟩, ⟨hg11, hg12, hg13⟩⟩ := hs
  obtain ⟨⟨hwL, hwA, hwB, hwE, hwc, hwz, hwx⟩, hv1, hv2, hv6, hCh, hA, hB, hE⟩ := hv
  have L19 : ∀ (fq : Nat) (k : Nat) (I1 : mx_I), 4 - k < fq → (k ≤ 4) → (arN I1 (o + 4) (plf (pE A) c (2 ^ (pL A + 1)) k) 8) → (∀ a j : Nat, a ≠ o + 4 → I1 a j = mx_u I o 2 (nI (pL A + 1)) a j) → (mx_fr I I1 o (o + 5)) → mx_V mX2_place mx_S0 1 0 0 19 [some (.ref o), some (.int (nI c)), some (.int (nI (2 ^ (pL A + 1)))), some (.int (nI k))] [] G I1 (fun rv Gz Iz => (fun rv I1 => rv = some (.int (nI (2 ^ (pL A + 1)))) ∧ ptN I1 o (pPlace A c) ∧ mx_fr I I1 o (o + 5)) rv Iz ∧ Gz = G) (fun _ _ _ => False) := by
    intro fq
    induction fq with
    | zero => intro k I1 hfu; exact absurd hfu (Nat.not_lt_zero _)
    | succ fq ih =>
      intro k I1 hfu hk a1 hoth hfr
      refine mx_iload_n (i := 3) (hi := rfl) (hl := rfl) (hd := dX2_place_19) ?_
      refine mx_iconstN 4 dX2_place_20 (by decide) ?_
      refine mx_cmpN_ge 74 dX2_place_21 (by decide) (by omega) (by omega) (fun c21 => ?_) (fun c21 => ?_)
      · skip
        refine mx_iload_n (i := 2) (hi := rfl) (hl := rfl) (hd := dX2_place_74) ?_
        refine mx_iret dX2_place_75 rfl rfl (⟨⟨rfl, ⟨hw.place c hL, ?_, ?_, ?_, ?_, ?_, ?_, ?_⟩, hfr⟩, rfl⟩)
        · rw [hoth _ _ (by omega), mx_u_at, if_neg (by omega)]; exact hv1
        · rw [hoth _ _ (by omega), mx_u_at, if_pos ⟨rfl, rfl⟩]; rfl
        · rw [hoth _ _ (by omega), mx_u_at, if_neg (by omega)]; exact hv6
        · exact fun s hs => by rw [hoth _ _ (by omega), mx_u_at, if_neg (by omega)]; exact hCh s hs
        · exact fun s hs => by rw [hoth _ _ (by omega), mx_u_at, if_neg (by omega)]; exact hA s hs
        · exact fun s hs => by rw [hoth _ _ (by omega), mx_u_at, if_neg (by omega)]; exact hB s hs
        · have e4 : k = 4 := by omega
          subst e4; exact a1
      · skip
        refine mx_iload_n (i := 1) (hi := rfl) (hl := rfl) (hd := dX2_place_24) ?_
        refine mx_bipushN 46 dX2_place_25 (by decide) ?_
        refine mx_cmpN_eq 38 dX2_place_27 (by decide) (by omega) (by omega) (fun c27 => ?_) (fun c27 => ?_)
        · skip
          refine mx_aload_n (i := 0) (hi := rfl) (hl := rfl) (hd := dX2_place_38) ?_
          refine mx_getR (ci := 2) (k := 5) (r := (o + 4)) dX2_place_39 k_91 (by decide) rfl (by assumption) (by assumption) (by omega) ?_
          refine mx_iload_n (i := 3) (hi := rfl) (hl := rfl) (hd := dX2_place_42) ?_
          refine mx_dup2 (hva := rfl) (hvb := rfl) (hd := dX2_place_43) ?_
          refine mx_ialdV k (nI (pE A k)) dX2_place_44 (by assumption) ⟨rfl, by omega, by omega⟩ ((a1 k (by omega)).trans (congrArg nI (plf_lo _ _ _ _ (by omega)))) ?_
          refine mx_iload_n (i := 2) (hi := rfl) (hl := rfl) (hd := dX2_place_45) ?_
          refine mx_iorN dX2_place_46 ?_
          refine mx_iast k dX2_place_47 (by assumption) ⟨rfl, by omega, by omega⟩ ?_
          refine mx_iload_n (i := 1) (hi := rfl) (hl := rfl) (hd := dX2_place_48) ?_
          refine mx_bipushN 65 dX2_place_49 (by decide) ?_
          refine mx_iload_n (i := 3) (hi := rfl) (hl := rfl) (hd := dX2_place_51) ?_
          refine mx_iaddN dX2_place_52 ?_
          refine mx_cmpN_ne 68 dX2_place_53 (by decide) (by omega) (by omega) (fun c53 => ?_) (fun c53 => ?_)
          · skip
            refine mx_iincE (i := 3) (ls' := [some (.ref o), some (.int (nI c)), some (.int (nI (2 ^ (pL A + 1)))), some (.int (nI (k + 1)))]) 1 dX2_place_68 rfl (by decide) (by decide) rfl rfl ?_
            refine mx_goto (tgt := 19) dX2_place_71 (by decide) ?_
            exact ih (k + 1) _ (by omega) (by omega) ((a1.u).c (fun j _ => by have h9 := (plf_st (pE A) (c := c) (b := 2 ^ (pL A + 1)) (by omega : k < 4) (p := true) (q := false) ⟨fun _ => by omega, fun _ => rfl⟩ ⟨fun q => (nomatch q), fun q => absurd q (by omega)⟩ j); simp only [eq_self, true_and, false_and, if_false, Bool.false_eq_true, if_true] at h9; exact h9)) (by intro a j h1; rw [mx_u_at, if_neg (by omega)]; exact hoth a j h1) (hfr.u (by omega))
          · skip
            refine mx_aload_n (i := 0) (hi := rfl) (hl := rfl) (hd := dX2_place_56) ?_
            refine mx_getR (ci := 2) (k := 5) (r := (o + 4)) dX2_place_57 k_91 (by decide) rfl (by assumption) (by assumption) (by omega) ?_
            refine mx_iconstN 4 dX2_place_60 (by decide) ?_
            refine mx_iload_n (i := 3) (hi := rfl) (hl := rfl) (hd := dX2_place_61) ?_
            refine mx_iaddN dX2_place_62 ?_
            refine mx_dup2 (hva := rfl) (hvb := rfl) (hd := dX2_place_63) ?_
            refine mx_ialdV (4 + k) (nI (pE A (4 + k))) dX2_place_64 (by assumption) ⟨rfl, by omega, by omega⟩ (by rw [mx_u_at, if_neg (by omega)]; exact ((a1 (4 + k) (by omega)).trans (congrArg nI (plf_hi _ _ _ _ (by omega))))) ?_
            refine mx_iload_n (i := 2) (hi := rfl) (hl := rfl) (hd := dX2_place_65) ?_
            refine mx_iorN dX2_place_66 ?_
            refine mx_iast (4 + k) dX2_place_67 (by assumption) ⟨rfl, by omega, by omega⟩ ?_
            refine mx_iincE (i := 3) (ls' := [some (.ref o), some (.int (nI c)), some (.int (nI (2 ^ (pL A + 1)))), some (.int (nI (k + 1)))]) 1 dX2_place_68 rfl (by decide) (by decide) rfl rfl ?_
            refine mx_goto (tgt := 19) dX2_place_71 (by decide) ?_
            exact ih (k + 1) _ (by omega) (by omega) (((a1.u).u).c (fun j _ => by have h9 := (plf_st (pE A) (c := c) (b := 2 ^ (pL A + 1)) (by omega : k < 4) (p := true) (q := true) ⟨fun _ => by omega, fun _ => rfl⟩ ⟨fun _ => by omega, fun _ => rfl⟩ j); simp only [eq_self, true_and, false_and, if_false, Bool.false_eq_true, if_true] at h9; exact h9)) (by intro a j h1; rw [mx_u_at, if_neg (by omega), mx_u_at, if_neg (by omega)]; exact hoth a j h1) ((hfr.u (by omega)).u (by omega))
        · skip
          refine mx_iload_n (i := 1) (hi := rfl) (hl := rfl) (hd := dX2_place_30) ?_
          refine mx_bipushN 97 dX2_place_31 (by decide) ?_
          refine mx_iload_n (i := 3) (hi := rfl) (hl := rfl) (hd := dX2_place_33) ?_
          refine mx_iaddN dX2_place_34 ?_
          refine mx_cmpN_ne 48 dX2_place_35 (by decide) (by omega) (by omega) (fun c35 => ?_) (fun c35 => ?_)
          · skip
            refine mx_iload_n (i := 1) (hi := rfl) (hl := rfl) (hd := dX2_place_48) ?_
            refine mx_bipushN 65 dX2_place_49 (by decide) ?_
            refine mx_iload_n (i := 3) (hi := rfl) (hl := rfl) (hd := dX2_place_51) ?_
            refine mx_iaddN dX2_place_52 ?_
            refine mx_cmpN_ne 68 dX2_place_53 (by decide) (by omega) (by omega) (fun c53 => ?_) (fun c53 => ?_)
            · skip
              refine mx_iincE (i := 3) (ls' := [some (.ref o), some (.int (nI c)), some (.int (nI (2 ^ (pL A + 1)))), some (.int (nI (k + 1)))]) 1 dX2_place_68 rfl (by decide) (by decide) rfl rfl ?_
              refine mx_goto (tgt := 19) dX2_place_71 (by decide) ?_
              exact ih (k + 1) _ (by omega) (by omega) (a1.c (fun j _ => by have h9 := (plf_st (pE A) (c := c) (b := 2 ^ (pL A + 1)) (by omega : k < 4) (p := false) (q := false) ⟨fun q => (nomatch q), fun q => absurd q (by omega)⟩ ⟨fun q => (nomatch q), fun q => absurd q (by omega)⟩ j); simp only [eq_self, true_and, false_and, if_false, Bool.false_eq_true, if_true] at h9; exact h9)) (by intro a j h1; exact hoth a j h1) hfr
            · skip
              refine mx_aload_n (i := 0) (hi := rfl) (hl := rfl) (hd := dX2_place_56) ?_
              refine mx_getR (ci := 2) (k := 5) (r := (o + 4)) dX2_place_57 k_91 (by decide) rfl (by assumption) (by assumption) (by omega) ?_
              refine mx_iconstN 4 dX2_place_60 (by decide) ?_
              refine mx_iload_n (i := 3) (hi := rfl) (hl := rfl) (hd := dX2_place_61) ?_
              refine mx_iaddN dX2_place_62 ?_
              refine mx_dup2 (hva := rfl) (hvb := rfl) (hd := dX2_place_63) ?_
              refine mx_ialdV (4 + k) (nI (pE A (4 + k))) dX2_place_64 (by assumption) ⟨rfl, by omega, by omega⟩ ((a1 (4 + k) (by omega)).trans (congrArg nI (plf_hi _ _ _ _ (by omega)))) ?_
              refine mx_iload_n (i := 2) (hi := rfl) (hl := rfl) (hd := dX2_place_65) ?_
              refine mx_iorN dX2_place_66 ?_
              refine mx_iast (4 + k) dX2_place_67 (by assumption) ⟨rfl, by omega, by omega⟩ ?_
              refine mx_iincE (i := 3) (ls' := [some (.ref o), some (.int (nI c)), some (.int (nI (2 ^ (pL A + 1)))), some (.int (nI (k + 1)))]) 1 dX2_place_68 rfl (by decide) (by decide) rfl rfl ?_
              refine mx_goto (tgt := 19) dX2_place_71 (by decide) ?_
              exact ih (k + 1) _ (by omega) (by omega) ((a1.u).c (fun j _ => by have h9 := (plf_st (pE A) (c := c) (b := 2 ^ (pL A + 1)) (by omega : k < 4) (p := false) (q := true) ⟨fun q => (nomatch q), fun q => absurd q (by omega)⟩ ⟨fun _ => by omega, fun _ => rfl⟩ j); simp only [eq_self, true_and, false_and, if_false, Bool.false_eq_true, if_true] at h9; exact h9)) (by intro a j h1; rw [mx_u_at, if_neg (by omega)]; exact hoth a j h1) (hfr.u (by omega))
          · skip
            refine mx_aload_n (i := 0) (hi := rfl) (hl := rfl) (hd := dX2_place_38) ?_
            refine mx_getR (ci := 2) (k := 5) (r := (o + 4)) dX2_place_39 k_91 (by decide) rfl (by assumption) (by assumption) (by omega) ?_
            refine mx_iload_n (i := 3) (hi := rfl) (hl := rfl) (hd := dX2_place_42) ?_
            refine mx_dup2 (hva := rfl) (hvb := rfl) (hd := dX2_place_43) ?_
            refine mx_ialdV k (nI (pE A k)) dX2_place_44 (by assumption) ⟨rfl, by omega, by omega⟩ ((a1 k (by omega)).trans (congrArg nI (plf_lo _ _ _ _ (by omega)))) ?_
            refine mx_iload_n (i := 2) (hi := rfl) (hl := rfl) (hd := dX2_place_45) ?_
            refine mx_iorN dX2_place_46 ?_
            refine mx_iast k dX2_place_47 (by assumption) ⟨rfl, by omega, by omega⟩ ?_
            refine mx_iload_n (i := 1) (hi := rfl) (hl := rfl) (hd := dX2_place_48) ?_
            refine mx_bipushN 65 dX2_place_49 (by decide) ?_
            refine mx_iload_n (i := 3) (hi := rfl) (hl := rfl) (hd := dX2_place_51) ?_
            refine mx_iaddN dX2_place_52 ?_
            refine mx_cmpN_ne 68 dX2_place_53 (by decide) (by omega) (by omega) (fun c53 => ?_) (fun c53 => ?_)
            · skip
              refine mx_iincE (i := 3) (ls' := [some (.ref o), some (.int (nI c)), some (.int (nI (2 ^ (pL A + 1)))), some (.int (nI (k + 1)))]) 1 dX2_place_68 rfl (by decide) (by decide) rfl rfl ?_
              refine mx_goto (tgt := 19) dX2_place_71 (by decide) ?_
              exact ih (k + 1) _ (by omega) (by omega) ((a1.u).c (fun j _ => by have h9 := (plf_st (pE A) (c := c) (b := 2 ^ (pL A + 1)) (by omega : k < 4) (p := true) (q := false) ⟨fun _ => by omega, fun _ => rfl⟩ ⟨fun q => (nomatch q), fun q => absurd q (by omega)⟩ j); simp only [eq_self, true_and, false_and, if_false, Bool.false_eq_true, if_true] at h9; exact h9)) (by intro a j h1; rw [mx_u_at, if_neg (by omega)]; exact hoth a j h1) (hfr.u (by omega))
            · skip
              refine mx_aload_n (i := 0) (hi := rfl) (hl := rfl) (hd := dX2_place_56) ?_
              refine mx_getR (ci := 2) (k := 5) (r := (o + 4)) dX2_place_57 k_91 (by decide) rfl (by assumption) (by assumption) (by omega) ?_
              refine mx_iconstN 4 dX2_place_60 (by decide) ?_
              refine mx_iload_n (i := 3) (hi := rfl) (hl := rfl) (hd := dX2_place_61) ?_
              refine mx_iaddN dX2_place_62 ?_
              refine mx_dup2 (hva := rfl) (hvb := rfl) (hd := dX2_place_63) ?_
              refine mx_ialdV (4 + k) (nI (pE A (4 + k))) dX2_place_64 (by assumption) ⟨rfl, by omega, by omega⟩ (by rw [mx_u_at, if_neg (by omega)]; exact ((a1 (4 + k) (by omega)).trans (congrArg nI (plf_hi _ _ _ _ (by omega))))) ?_
              refine mx_iload_n (i := 2) (hi := rfl) (hl := rfl) (hd := dX2_place_65) ?_
              refine mx_iorN dX2_place_66 ?_
              refine mx_iast (4 + k) dX2_place_67 (by assumption) ⟨rfl, by omega, by omega⟩ ?_
              refine mx_iincE (i := 3) (ls' := [some (.ref o), some (.int (nI c)), some (.int (nI (2 ^ (pL A + 1)))), some (.int (nI (k + 1)))]) 1 dX2_place_68 rfl (by decide) (by decide) rfl rfl ?_
              refine mx_goto (tgt := 19) dX2_place_71 (by decide) ?_
              exact ih (k + 1) _ (by omega) (by omega) (((a1.u).u).c (fun j _ => by have h9 := (plf_st (pE A) (c := c) (b := 2 ^ (pL A + 1)) (by omega : k < 4) (p := true) (q := true) ⟨fun _ => by omega, fun _ => rfl⟩ ⟨fun _ => by omega, fun _ => rfl⟩ j); simp only [eq_self, true_and, false_and, if_false, Bool.false_eq_true, if_true] at h9; exact h9)) (by intro a j h1; rw [mx_u_at, if_neg (by omega), mx_u_at, if_neg (by omega)]; exact hoth a j h1) ((hfr.u (by omega)).u (by omega))
  refine mx_aload_n (i := 0) (hi := rfl) (hl := rfl) (hd := dX2_place_0) ?_
  refine mx_dup (hva := rfl) (hd := dX2_place_1) ?_
  refine mx_getV (ci := 2) (k := 2) (nI (pL A)) dX2_place_2 k_87 (by decide) rfl (by assumption) hv2 ?_
  refine mx_iconstN 1 dX2_place_5 (by decide) ?_
  refine mx_iaddN dX2_place_6 ?_
  refine mx_putI (ci := 2) (k := 2) dX2_place_7 k_87 (by decide) rfl rfl rfl rfl (by assumption) ?_
  refine mx_iconstN 1 dX2_place_10 (by decide) ?_
  refine mx_aload_n (i := 0) (hi := rfl) (hl := rfl) (hd := dX2_place_11) ?_
  refine mx_getV (ci := 2) (k := 2) (nI (pL A + 1)) dX2_place_12 k_87 (by decide) rfl (by assumption) (by rw [mx_u_at, if_pos ⟨rfl, rfl⟩]) ?_
  refine mx_ishl1N dX2_place_15 (by omega) ?_
  refine mx_istoreE_n (i := 2) (ls' := [some (.ref o), some (.int (nI c)), some (.int (nI (2 ^ (pL A + 1)))), none]) (hi := rfl) (hd := dX2_place_16) (hn := by decide) (hok := rfl) (hls := rfl) ?_
  refine mx_iconstN 0 dX2_place_17 (by decide) ?_
  refine mx_istoreE_n (i := 3) (ls' := [some (.ref o), some (.int (nI c)), some (.int (nI (2 ^ (pL A + 1)))), some (.int (nI 0))]) (hi := rfl) (hd := dX2_place_18) (hn := by decide) (hok := rfl) (hls := rfl) ?_
  exact L19 _ 0 _ (Nat.lt_succ_self _) (by decide) ((hE.o (by omega)).c (fun j _ => by unfold plf; rw [if_neg (by omega)])) (fun _ _ _ => rfl) ((mx_fr.rf _ _ _).u (by omega))

def pcN (I : mx_I) (o f l : Nat) (e : Bool) : Prop := I o 0 = nI f ∧ I o 1 = nI l ∧ I o 2 = mx_b e
theorem pcN.fr {I I' : mx_I} {o f l lo hi : Nat} {e : Bool} (h : pcN I o f l e) (q : mx_fr I I' lo hi) (d : o < lo ∨ hi ≤ o) : pcN I' o f l e := by
  obtain ⟨h1, h2, h3⟩ := h
  rw [pcN, q o d]
  exact ⟨h1, h2, h3⟩
theorem mx_dec (b : Bool) : decide (b = true) = b := by cases b <;> rfl

set_option maxHeartbeats 4000000 in
set_option maxRecDepth 100000 in
theorem ct_become (G : mx_G) (I : mx_I) (o f l : Nat) (e : Bool) (hs : mx_tg G o = 14) : mx_CTi yX4_become mX4_become 1 [.ref o, .int (nI f), .int (nI l), .int (mx_b (decide (e = true)))] G I (fun rv I1 => rv = none ∧ pcN I1 o f l e ∧ mx_fr I I1 o (o + 1)) := by
  refine mx_start (k := 0) (by decide) rfl rfl (fun h => nomatch h) (Nat.le_of_ble_eq_true rfl) ?_
  show mx_V mX4_become mx_S0 1 0 0 0 [some (.ref o), some (.int (nI f)), some (.int (nI l)), some (.int (mx_b (decide (e = true))))] [] G I (fun rv Gz Iz => (fun rv I1 => rv = none ∧ pcN I1 o f l e ∧ mx_fr I I1 o (o + 1)) rv Iz ∧ Gz = G) (fun _ _ _ => False)
  refine mx_aload_n (i := 0) (hi := rfl) (hl := rfl) (hd := dX4_become_0) ?_
  refine mx_iload_n (i := 1) (hi := rfl) (hl := rfl) (hd := dX4_become_1) ?_
  refine mx_putI (ci := 4) (k := 0) dX4_become_2 k_126 (by decide) rfl rfl rfl rfl (by assumption) ?_
  refine mx_aload_n (i := 0) (hi := rfl) (hl := rfl) (hd := dX4_become_5) ?_
  refine mx_iload_n (i := 2) (hi := rfl) (hl := rfl) (hd := dX4_become_6) ?_
  refine mx_putI (ci := 4) (k := 1) dX4_become_7 k_128 (by decide) rfl rfl rfl rfl (by assumption) ?_
  refine mx_aload_n (i := 0) (hi := rfl) (hl := rfl) (hd := dX4_become_10) ?_
  refine mx_iload_n (i := 3) (hi := rfl) (hl := rfl) (hd := dX4_become_11) ?_
  refine mx_putI (ci := 4) (k := 2) dX4_become_12 k_130 (by decide) rfl rfl (mx_b_nz _) (mx_b_fit _) (by assumption) ?_
  refine mx_vret dX4_become_15 rfl (⟨⟨rfl, ⟨?_, ?_, ?_⟩, ?_⟩, rfl⟩)
  · rw [mx_u_at, if_neg (by omega), mx_u_at, if_neg (by omega), mx_u_at, if_pos ⟨rfl, rfl⟩]
  · rw [mx_u_at, if_neg (by omega), mx_u_at, if_pos ⟨rfl, rfl⟩]
  · rw [mx_u_at, if_pos ⟨rfl, rfl⟩, mx_dec]
  · exact (((mx_fr.rf I o (o + 1)).u (by omega)).u (by omega)).u (by omega)

set_option maxHeartbeats 4000000 in
set_option maxRecDepth 100000 in
theorem ct_orElse (G : mx_G) (I : mx_I) (o p f l f2 l2 : Nat) (e e2 : Bool) (hs : mx_tg G o = 14) (hs2 : mx_tg G p = 14) (hv : pcN I o f l e) (hv2 : pcN I p f2 l2 e2) : mx_CTi yX4_orElse mX4_orElse 2 [.ref o, .ref p] G I (fun rv I1 => rv = none ∧ pcN I1 o (f ||| f2) (l ||| l2) (e || e2) ∧ mx_fr I I1 o (o + 1)) := by
  refine mx_start (k := 0) (by decide) rfl rfl (fun h => nomatch h) (Nat.le_of_ble_eq_true rfl) ?_
  show mx_V mX4_orElse mx_S0 2 0 0 0 [some (.ref o), some (.ref p)] [] G I (fun rv Gz Iz => (fun rv I1 => rv = none ∧ pcN I1 o (f ||| f2) (l ||| l2) (e || e2) ∧ mx_fr I I1 o (o + 1)) rv Iz ∧ Gz = G) (fun _ _ _ => False)
  refine mx_aload_n (i := 0) (hi := rfl) (hl := rfl) (hd := dX4_orElse_0) ?_
  refine mx_aload_n (i := 0) (hi := rfl) (hl := rfl) (hd := dX4_orElse_1) ?_
  refine mx_getV (ci := 4) (k := 0) (nI f) dX4_orElse_2 k_126 (by decide) rfl (by assumption) hv.1 ?_
  refine mx_aload_n (i := 1) (hi := rfl) (hl := rfl) (hd := dX4_orElse_5) ?_
  refine mx_getV (ci := 4) (k := 0) (nI f2) dX4_orElse_6 k_126 (by decide) rfl (by assumption) hv2.1 ?_
  refine mx_iorN dX4_orElse_9 ?_
  refine mx_aload_n (i := 0) (hi := rfl) (hl := rfl) (hd := dX4_orElse_10) ?_
  refine mx_getV (ci := 4) (k := 1) (nI l) dX4_orElse_11 k_128 (by decide) rfl (by assumption) hv.2.1 ?_
  refine mx_aload_n (i := 1) (hi := rfl) (hl := rfl) (hd := dX4_orElse_14) ?_
  refine mx_getV (ci := 4) (k := 1) (nI l2) dX4_orElse_15 k_128 (by decide) rfl (by assumption) hv2.2.1 ?_
  refine mx_iorN dX4_orElse_18 ?_
  refine mx_aload_n (i := 0) (hi := rfl) (hl := rfl) (hd := dX4_orElse_19) ?_
  refine mx_getV (ci := 4) (k := 2) (mx_b (decide (e = true)) : Int32) dX4_orElse_20 k_130 (by decide) rfl (by assumption) (by rw [mx_dec]; exact hv.2.2) ?_
  refine mx_ifB_ne 33 dX4_orElse_23 (by decide) (fun c23 => ?_) (fun c23 => ?_)
  · skip
    refine mx_iconstN 1 dX4_orElse_33 (by decide) ?_
    refine mx_goto (tgt := 38) dX4_orElse_34 (by decide) ?_
    refine mx_top (y := mx_b (decide ((e || e2) = true))) (mx_bT (by first | (rw [c23]; rfl) | (rw [c30]; cases e <;> rfl))) ?_
    refine mx_callVi (ci := 4) (As := [.int (nI (f ||| f2)), .int (nI (l ||| l2)), .int (mx_b (decide ((e || e2) = true)))]) (rest := []) dX4_orElse_38 (ct_become G I o (f ||| f2) (l ||| l2) (e || e2) hs) km_X4_become rfl k_852 k_824 k_825 (by assumption) rfl rfl (Nat.le_of_ble_eq_true rfl) (by decide) (fun r1 I2 h3 => ?_)
    obtain ⟨e9, hq1, hq2⟩ := h3
    subst e9
    exact mx_vret dX4_orElse_41 rfl (⟨⟨rfl, hq1, hq2⟩, rfl⟩)
  · skip
    refine mx_aload_n (i := 1) (hi := rfl) (hl := rfl) (hd := dX4_orElse_26) ?_
    refine mx_getV (ci := 4) (k := 2) (mx_b (decide (e2 = true)) : Int32) dX4_orElse_27 k_130 (by decide) rfl (by assumption) (by rw [mx_dec]; exact hv2.2.2) ?_
    refine mx_ifB_eq 37 dX4_orElse_30 (by decide) (fun c30 => ?_) (fun c30 => ?_)
    · skip
      refine mx_iconstN 0 dX4_orElse_37 (by decide) ?_
      refine mx_top (y := mx_b (decide ((e || e2) = true))) (mx_bF (by intro q; cases e <;> cases e2 <;> first | exact c23 rfl | exact c30 rfl | cases q)) ?_
      refine mx_callVi (ci := 4) (As := [.int (nI (f ||| f2)), .int (nI (l ||| l2)), .int (mx_b (decide ((e || e2) = true)))]) (rest := []) dX4_orElse_38 (ct_become G I o (f ||| f2) (l ||| l2) (e || e2) hs) km_X4_become rfl k_852 k_824 k_825 (by assumption) rfl rfl (Nat.le_of_ble_eq_true rfl) (by decide) (fun r4 I5 h6 => ?_)
      obtain ⟨e9, hq1, hq2⟩ := h6
      subst e9
      exact mx_vret dX4_orElse_41 rfl (⟨⟨rfl, hq1, hq2⟩, rfl⟩)
    · skip
      refine mx_iconstN 1 dX4_orElse_33 (by decide) ?_
      refine mx_goto (tgt := 38) dX4_orElse_34 (by decide) ?_
      refine mx_top (y := mx_b (decide ((e || e2) = true))) (mx_bT (by first | (rw [c23]; rfl) | (rw [c30]; cases e <;> rfl))) ?_
      refine mx_callVi (ci := 4) (As := [.int (nI (f ||| f2)), .int (nI (l ||| l2)), .int (mx_b (decide ((e || e2) = true)))]) (rest := []) dX4_orElse_38 (ct_become G I o (f ||| f2) (l ||| l2) (e || e2) hs) km_X4_become rfl k_852 k_824 k_825 (by assumption) rfl rfl (Nat.le_of_ble_eq_true rfl) (by decide) (fun r7 I8 h9 => ?_)
      obtain ⟨e9, hq1, hq2⟩ := h9
      subst e9
      exact mx_vret dX4_orElse_41 rfl (⟨⟨rfl, hq1, hq2⟩, rfl⟩)

def oWH (G : mx_G) (o : Nat) : Prop := mx_tg G o = 18 ∧ mx_rf G o 0 = o + 1 ∧ mx_tg G (o + 1) = 1 ∧ mx_ln G (o + 1) = 80
def whP (w : Nat → Nat) (lv u x : Nat) : Nat → Nat := fun j => if j = lv % 10 * 8 + u then w j ||| x else w j
def whD (w : Nat → Nat) (lv u : Nat) : Nat → Nat := fun j => if j = lv % 10 * 8 + u then 0 else w j

set_option maxHeartbeats 4000000 in
set_option maxRecDepth 100000 in
theorem ct_whClear (G : mx_G) (I : mx_I) (o : Nat) (hs : oWH G o) : mx_CTi yX8_clear mX8_clear 1 [.ref o] G I (fun rv I1 => rv = none ∧ arN I1 (o + 1) (fun _ => 0) 80 ∧ mx_fr I I1 (o + 1) (o + 2)) := by
  refine mx_start (k := 1) (by decide) rfl rfl (fun h => nomatch h) (Nat.le_of_ble_eq_true rfl) ?_
  show mx_V mX8_clear mx_S0 1 0 0 0 [some (.ref o), none] [] G I (fun rv Gz Iz => (fun rv I1 => rv = none ∧ arN I1 (o + 1) (fun _ => 0) 80 ∧ mx_fr I I1 (o + 1) (o + 2)) rv Iz ∧ Gz = G) (fun _ _ _ => False)
  obtain ⟨hg0, hg1, hg2, hg3⟩ := hs
  have L2 : ∀ (fq : Nat) (i : Nat) (I1 : mx_I), 80 - i < fq → (i ≤ 80) → (arN I1 (o + 1) (fun _ => 0) i) → (mx_fr I I1 (o + 1) (o + 2)) → mx_V mX8_clear mx_S0 1 0 0 2 [some (.ref o), some (.int (nI i))] [] G I1 (fun rv Gz Iz => (fun rv I1 => rv = none ∧ arN I1 (o + 1) (fun _ => 0) 80 ∧ mx_fr I I1 (o + 1) (o + 2)) rv Iz ∧ Gz = G) (fun _ _ _ => False) := by
    intro fq
    induction fq with
    | zero => intro i I1 hfu; exact absurd hfu (Nat.not_lt_zero _)
    | succ fq ih =>
      intro i I1 hfu hi a1 hfr
      refine mx_iload_n (i := 1) (hi := rfl) (hl := rfl) (hd := dX8_clear_2) ?_
      refine mx_bipushN 80 dX8_clear_3 (by decide) ?_
      refine mx_cmpN_ge 21 dX8_clear_5 (by decide) (by omega) (by omega) (fun c5 => ?_) (fun c5 => ?_)
      · skip
        exact mx_vret dX8_clear_21 rfl (⟨⟨rfl, (show i = 80 by omega) ▸ a1, hfr⟩, rfl⟩)
      · skip
        refine mx_aload_n (i := 0) (hi := rfl) (hl := rfl) (hd := dX8_clear_8) ?_
        refine mx_getR (ci := 8) (k := 0) (r := (o + 1)) dX8_clear_9 k_242 (by decide) rfl (by assumption) (by assumption) (by omega) ?_
        refine mx_iload_n (i := 1) (hi := rfl) (hl := rfl) (hd := dX8_clear_12) ?_
        refine mx_iconstN 0 dX8_clear_13 (by decide) ?_
        refine mx_iast i dX8_clear_14 (by assumption) ⟨rfl, by omega, by omega⟩ ?_
        refine mx_iincE (i := 1) (ls' := [some (.ref o), some (.int (nI (i + 1)))]) 1 dX8_clear_15 rfl (by decide) (by decide) rfl rfl ?_
        refine mx_goto (tgt := 2) dX8_clear_18 (by decide) ?_
        exact ih (i + 1) _ (by omega) (by omega) ((a1.up).c (fun j _ => by by_cases e : j = i <;> simp [e])) (hfr.u (by omega))
  refine mx_iconstN 0 dX8_clear_0 (by decide) ?_
  refine mx_istoreE_n (i := 1) (ls' := [some (.ref o), some (.int (nI 0))]) (hi := rfl) (hd := dX8_clear_1) (hn := by decide) (hok := rfl) (hls := rfl) ?_
  exact L2 _ 0 I (Nat.lt_succ_self _) (by decide) (fun s hs => absurd hs (Nat.not_lt_zero _)) (mx_fr.rf _ _ _)

set_option maxHeartbeats 4000000 in
set_option maxRecDepth 100000 in
theorem ct_whPut (G : mx_G) (I : mx_I) (o : Nat) (w : Nat → Nat) (hs : oWH G o) (hv : arN I (o + 1) w 80) (lv u x : Nat) (hlv : lv < 2 ^ 31) (hu : u < 8) : mx_CTi yX8_put mX8_put 1 [.ref o, .int (nI lv), .int (nI u), .int (nI x)] G I (fun rv I1 => rv = none ∧ arN I1 (o + 1) (whP w lv u x) 80 ∧ mx_fr I I1 (o + 1) (o + 2)) := by
  refine mx_start (k := 0) (by decide) rfl rfl (fun h => nomatch h) (Nat.le_of_ble_eq_true rfl) ?_
  show mx_V mX8_put mx_S0 1 0 0 0 [some (.ref o), some (.int (nI lv)), some (.int (nI u)), some (.int (nI x))] [] G I (fun rv Gz Iz => (fun rv I1 => rv = none ∧ arN I1 (o + 1) (whP w lv u x) 80 ∧ mx_fr I I1 (o + 1) (o + 2)) rv Iz ∧ Gz = G) (fun _ _ _ => False)
  obtain ⟨hg0, hg1, hg2, hg3⟩ := hs
  refine mx_aload_n (i := 0) (hi := rfl) (hl := rfl) (hd := dX8_put_0) ?_
  refine mx_getR (ci := 8) (k := 0) (r := (o + 1)) dX8_put_1 k_242 (by decide) rfl (by assumption) (by assumption) (by omega) ?_
  refine mx_iload_n (i := 1) (hi := rfl) (hl := rfl) (hd := dX8_put_4) ?_
  refine mx_bipushN 10 dX8_put_5 (by decide) ?_
  refine mx_iremN dX8_put_7 (by omega) (by decide) ?_
  refine mx_bipushN 8 dX8_put_8 (by decide) ?_
  refine mx_imulN dX8_put_10 ?_
  refine mx_iload_n (i := 2) (hi := rfl) (hl := rfl) (hd := dX8_put_11) ?_
  refine mx_iaddN dX8_put_12 ?_
  refine mx_dup2 (hva := rfl) (hvb := rfl) (hd := dX8_put_13) ?_
  refine mx_ialdV (((lv % 10) * 8) + u) (nI (w (((lv % 10) * 8) + u))) dX8_put_14 (by assumption) ⟨rfl, by omega, by omega⟩ (hv (((lv % 10) * 8) + u) (by omega)) ?_
  refine mx_iload_n (i := 3) (hi := rfl) (hl := rfl) (hd := dX8_put_15) ?_
  refine mx_iorN dX8_put_16 ?_
  refine mx_iast (((lv % 10) * 8) + u) dX8_put_17 (by assumption) ⟨rfl, by omega, by omega⟩ ?_
  exact mx_vret dX8_put_18 rfl (⟨⟨rfl, hv.u.c (fun j _ => by unfold whP; by_cases e : j = lv % 10 * 8 + u <;> simp [e]), (mx_fr.rf _ _ _).u (by omega)⟩, rfl⟩)

set_option maxHeartbeats 4000000 in
set_option maxRecDepth 100000 in
theorem ct_whDraw (G : mx_G) (I : mx_I) (o : Nat) (w : Nat → Nat) (hs : oWH G o) (hv : arN I (o + 1) w 80) (lv u : Nat) (hlv : lv < 2 ^ 31) (hu : u < 8) : mx_CTi yX8_draw mX8_draw 1 [.ref o, .int (nI lv), .int (nI u)] G I (fun rv I1 => rv = some (.int (nI (w (lv % 10 * 8 + u)))) ∧ arN I1 (o + 1) (whD w lv u) 80 ∧ mx_fr I I1 (o + 1) (o + 2)) := by
  refine mx_start (k := 2) (by decide) rfl rfl (fun h => nomatch h) (Nat.le_of_ble_eq_true rfl) ?_
  show mx_V mX8_draw mx_S0 1 0 0 0 [some (.ref o), some (.int (nI lv)), some (.int (nI u)), none, none] [] G I (fun rv Gz Iz => (fun rv I1 => rv = some (.int (nI (w (lv % 10 * 8 + u)))) ∧ arN I1 (o + 1) (whD w lv u) 80 ∧ mx_fr I I1 (o + 1) (o + 2)) rv Iz ∧ Gz = G) (fun _ _ _ => False)
  obtain ⟨hg0, hg1, hg2, hg3⟩ := hs
  refine mx_iload_n (i := 1) (hi := rfl) (hl := rfl) (hd := dX8_draw_0) ?_
  refine mx_bipushN 10 dX8_draw_1 (by decide) ?_
  refine mx_iremN dX8_draw_3 (by omega) (by decide) ?_
  refine mx_bipushN 8 dX8_draw_4 (by decide) ?_
  refine mx_imulN dX8_draw_6 ?_
  refine mx_iload_n (i := 2) (hi := rfl) (hl := rfl) (hd := dX8_draw_7) ?_
  refine mx_iaddN dX8_draw_8 ?_
  refine mx_istoreE_n (i := 3) (ls' := [some (.ref o), some (.int (nI lv)), some (.int (nI u)), some (.int (nI (((lv % 10) * 8) + u))), none]) (hi := rfl) (hd := dX8_draw_9) (hn := by decide) (hok := rfl) (hls := rfl) ?_
  refine mx_aload_n (i := 0) (hi := rfl) (hl := rfl) (hd := dX8_draw_10) ?_
  refine mx_getR (ci := 8) (k := 0) (r := (o + 1)) dX8_draw_11 k_242 (by decide) rfl (by assumption) (by assumption) (by omega) ?_
  refine mx_iload_n (i := 3) (hi := rfl) (hl := rfl) (hd := dX8_draw_14) ?_
  refine mx_ialdV (((lv % 10) * 8) + u) (nI (w (((lv % 10) * 8) + u))) dX8_draw_15 (by assumption) ⟨rfl, by omega, by omega⟩ (hv (((lv % 10) * 8) + u) (by omega)) ?_
  refine mx_istoreE (i := 4) (ls' := [some (.ref o), some (.int (nI lv)), some (.int (nI u)), some (.int (nI (((lv % 10) * 8) + u))), some (.int (nI (w (((lv % 10) * 8) + u))))]) (hd := dX8_draw_16) (hn := by decide) (hok := rfl) (hls := rfl) ?_
  refine mx_aload_n (i := 0) (hi := rfl) (hl := rfl) (hd := dX8_draw_18) ?_
  refine mx_getR (ci := 8) (k := 0) (r := (o + 1)) dX8_draw_19 k_242 (by decide) rfl (by assumption) (by assumption) (by omega) ?_
  refine mx_iload_n (i := 3) (hi := rfl) (hl := rfl) (hd := dX8_draw_22) ?_
  refine mx_iconstN 0 dX8_draw_23 (by decide) ?_
  refine mx_iast (((lv % 10) * 8) + u) dX8_draw_24 (by assumption) ⟨rfl, by omega, by omega⟩ ?_
  refine mx_iload (i := 4) (hl := rfl) (hd := dX8_draw_25) ?_
  exact mx_iret dX8_draw_27 rfl rfl (⟨⟨rfl, hv.u.c (fun j _ => by unfold whD; by_cases e : j = lv % 10 * 8 + u <;> simp [e]), (mx_fr.rf _ _ _).u (by omega)⟩, rfl⟩)
