/-! State: the writing methods -/
def gRev (v : Gr) (i : Nat) : Gr := (gP v, gN v, fun s => if s = i then gT v i else gF v s, gK v, fun s => if s = i then gF v i else gT v s, gC v)
def gDr (g : Nat → Nat) (i s : Nat) : Nat := if i ≤ s then g (s + 1) else g s
def gDrop (v : Gr) (i : Nat) : Gr := (gP v, gN v - 1, gDr (gF v) i, gDr (gK v) i, gDr (gT v) i, gDr (gC v) i)
/-- on the way: places below t - 1 are moved already -/
def shf (g : Nat → Nat) (i t s : Nat) : Nat := if i ≤ s ∧ s + 1 < t then g (s + 1) else g s
theorem shf_0 (g : Nat → Nat) (i s : Nat) : shf g i (i + 1) s = g s := by
  unfold shf; rw [if_neg (by omega)]
theorem shf_st (g : Nat → Nat) {i t : Nat} (h : i + 1 ≤ t) (s : Nat) : (if s = t - 1 then shf g i t t else shf g i t s) = shf g i (t + 1) s := by
  unfold shf
  by_cases e : s = t - 1
  · rw [if_pos e, if_neg (by omega), if_pos (by omega)]; congr 1; omega
  · rw [if_neg e]
    by_cases c : i ≤ s ∧ s + 1 < t
    · rw [if_pos c, if_pos (by omega)]
    · rw [if_neg c, if_neg (by omega)]
theorem shf_n (g : Nat → Nat) {i n s : Nat} (hs : s < n - 1) : shf g i n s = gDr g i s := by
  unfold shf gDr
  by_cases c : i ≤ s
  · rw [if_pos (by omega), if_pos c]
  · rw [if_neg (by omega), if_neg c]
theorem shf_t (g : Nat → Nat) (i t : Nat) : shf g i t t = g t := by
  unfold shf; rw [if_neg (by omega)]
theorem wfG.drop {v : Gr} (h : wfG v) (i : Nat) : wfG (gDrop v i) := by
  obtain ⟨h1, h2, h3⟩ := h
  refine ⟨h1, by show gN v - 1 ≤ 25; omega, fun s hs => ?_⟩
  have hs : s < gN v - 1 := hs
  show gDr (gF v) i s < 8 ∧ gDr (gK v) i s < 4 ∧ gDr (gT v) i s < 8 ∧ 1 ≤ gDr (gC v) i s ∧ gDr (gC v) i s ≤ 9
  unfold gDr
  split
  · exact h3 (s + 1) (by omega)
  · exact h3 s (by omega)
theorem wfG.rev {v : Gr} (h : wfG v) {i : Nat} (hi : i < gN v) : wfG (gRev v i) := by
  obtain ⟨h1, h2, h3⟩ := h
  refine ⟨h1, h2, fun s hs => ?_⟩
  have hs : s < gN v := hs
  have a1 := h3 s hs
  have a2 := h3 i hi
  show (if s = i then gT v i else gF v s) < 8 ∧ gK v s < 4 ∧ (if s = i then gF v i else gT v s) < 8 ∧ 1 ≤ gC v s ∧ gC v s ≤ 9
  split <;> omega
def gSw (k l x : Nat) : Nat := if x = k then l else if x = l then k else x
def gSwp (v : Gr) (k l : Nat) : Gr := (gP v, gN v, gF v, fun s => gSw k l (gK v s), gT v, gC v)
def gCh (g : Nat → Nat) (k l : Nat) : Nat → Nat
  | 0 => 0
  | s + 1 => gCh g k l s + if k ≠ l ∧ (g s = k ∨ g s = l) then 1 else 0
theorem wfG.swp {v : Gr} (h : wfG v) {k l : Nat} (hk : k < 4) (hl : l < 4) : wfG (gSwp v k l) := by
  obtain ⟨h1, h2, h3⟩ := h
  refine ⟨h1, h2, fun s hs => ?_⟩
  have a1 := h3 s hs
  show gF v s < 8 ∧ gSw k l (gK v s) < 4 ∧ gT v s < 8 ∧ 1 ≤ gC v s ∧ gC v s ≤ 9
  unfold gSw
  refine ⟨a1.1, ?_, a1.2.2⟩
  split
  · exact hl
  · split
    · exact hk
    · exact a1.2.1
/-- on the way: places below s are changed already -/
def swf (g : Nat → Nat) (k l s j : Nat) : Nat := if j < s then gSw k l (g j) else g j
theorem swf_st (g : Nat → Nat) {k l s x : Nat} (h : gSw k l (g s) = x) (j : Nat) : (if j = s then x else swf g k l s j) = swf g k l (s + 1) j := by
  unfold swf
  by_cases e : j = s
  · rw [if_pos e, if_pos (by omega), e, h]
  · rw [if_neg e]
    by_cases c : j < s
    · rw [if_pos c, if_pos (by omega)]
    · rw [if_neg c, if_neg (by omega)]
theorem swf_nt (g : Nat → Nat) {k l s : Nat} (h : gSw k l (g s) = g s) (j : Nat) : swf g k l s j = swf g k l (s + 1) j := by
  unfold swf
  by_cases e : j = s
  · rw [e, if_neg (Nat.lt_irrefl _), if_pos (Nat.lt_succ_self _), h]
  · by_cases c : j < s
    · rw [if_pos c, if_pos (by omega)]
    · rw [if_neg c, if_neg (by omega)]
theorem swf_s (g : Nat → Nat) (k l s : Nat) : swf g k l s s = g s := by
  unfold swf; rw [if_neg (Nat.lt_irrefl _)]

set_option maxHeartbeats 4000000 in
set_option maxRecDepth 100000 in
theorem ct_reverse (G : mx_G) (I : mx_I) (o : Nat) (v : Gr) (hs : oST G o) (hv : stN I o v) (i : Nat) (hi : i < gN v) : mx_CTi yX6_reverse mX6_reverse 1 [.ref o, .int (nI i)] G I (fun rv I1 => rv = none ∧ stN I1 o (gRev v i) ∧ mx_fr I I1 o (o + 5)) := by
  refine mx_start (k := 1) (by decide) rfl rfl (fun h => nomatch h) (Nat.le_of_ble_eq_true rfl) ?_
  show mx_V mX6_reverse mx_S0 1 0 0 0 [some (.ref o), some (.int (nI i)), none] [] G I (fun rv Gz Iz => (fun rv I1 => rv = none ∧ stN I1 o (gRev v i) ∧ mx_fr I I1 o (o + 5)) rv Iz ∧ Gz = G) (fun _ _ _ => False)
  have hw := hv.1
  obtain ⟨hg0, ⟨hg2, hg3, hg4⟩, ⟨hg5, hg6, hg7⟩, ⟨hg8, hg9, hg10⟩, ⟨hg11, hg12, hg13⟩⟩ := hs
  obtain ⟨⟨hP, hN, hb⟩, hv0, hv1, hF, hK, hT, hC⟩ := hv
  refine mx_aload_n (i := 0) (hi := rfl) (hl := rfl) (hd := dX6_reverse_0) ?_
  refine mx_getR (ci := 6) (k := 2) (r := (o + 1)) dX6_reverse_1 k_173 (by decide) rfl (by assumption) (by assumption) (by omega) ?_
  refine mx_iload_n (i := 1) (hi := rfl) (hl := rfl) (hd := dX6_reverse_4) ?_
  refine mx_ialdV i (nI (gF v i)) dX6_reverse_5 (by assumption) ⟨rfl, by omega, by omega⟩ (hF i (by omega)) ?_
  refine mx_istoreE_n (i := 2) (ls' := [some (.ref o), some (.int (nI i)), some (.int (nI (gF v i)))]) (hi := rfl) (hd := dX6_reverse_6) (hn := by decide) (hok := rfl) (hls := rfl) ?_
  refine mx_aload_n (i := 0) (hi := rfl) (hl := rfl) (hd := dX6_reverse_7) ?_
  refine mx_getR (ci := 6) (k := 2) (r := (o + 1)) dX6_reverse_8 k_173 (by decide) rfl (by assumption) (by assumption) (by omega) ?_
  refine mx_iload_n (i := 1) (hi := rfl) (hl := rfl) (hd := dX6_reverse_11) ?_
  refine mx_aload_n (i := 0) (hi := rfl) (hl := rfl) (hd := dX6_reverse_12) ?_
  refine mx_getR (ci := 6) (k := 4) (r := (o + 3)) dX6_reverse_13 k_181 (by decide) rfl (by assumption) (by assumption) (by omega) ?_
  refine mx_iload_n (i := 1) (hi := rfl) (hl := rfl) (hd := dX6_reverse_16) ?_
  refine mx_ialdV i (nI (gT v i)) dX6_reverse_17 (by assumption) ⟨rfl, by omega, by omega⟩ (hT i (by omega)) ?_
  refine mx_iast i dX6_reverse_18 (by assumption) ⟨rfl, by omega, by omega⟩ ?_
  refine mx_aload_n (i := 0) (hi := rfl) (hl := rfl) (hd := dX6_reverse_19) ?_
  refine mx_getR (ci := 6) (k := 4) (r := (o + 3)) dX6_reverse_20 k_181 (by decide) rfl (by assumption) (by assumption) (by omega) ?_
  refine mx_iload_n (i := 1) (hi := rfl) (hl := rfl) (hd := dX6_reverse_23) ?_
  refine mx_iload_n (i := 2) (hi := rfl) (hl := rfl) (hd := dX6_reverse_24) ?_
  refine mx_iast i dX6_reverse_25 (by assumption) ⟨rfl, by omega, by omega⟩ ?_
  refine mx_vret dX6_reverse_26 rfl (⟨⟨rfl, ⟨hw.rev hi, ?_, ?_, ?_, ?_, ?_, ?_⟩, ?_⟩, rfl⟩)
  · rw [mx_u_at, if_neg (by omega), mx_u_at, if_neg (by omega)]; exact hv0
  · rw [mx_u_at, if_neg (by omega), mx_u_at, if_neg (by omega)]; exact hv1
  · exact hF.u.o (by omega)
  · exact (hK.o (by omega)).o (by omega)
  · exact (hT.o (by omega)).u
  · exact (hC.o (by omega)).o (by omega)
  · exact ((mx_fr.rf I o (o + 5)).u (by omega)).u (by omega)

set_option maxHeartbeats 4000000 in
set_option maxRecDepth 100000 in
theorem ct_drop (G : mx_G) (I : mx_I) (o : Nat) (v : Gr) (hs : oST G o) (hv : stN I o v) (i : Nat) (hi : i < gN v) : mx_CTi yX6_drop mX6_drop 1 [.ref o, .int (nI i)] G I (fun rv I1 => rv = none ∧ stN I1 o (gDrop v i) ∧ mx_fr I I1 o (o + 5)) := by
  refine mx_start (k := 1) (by decide) rfl rfl (fun h => nomatch h) (Nat.le_of_ble_eq_true rfl) ?_
  show mx_V mX6_drop mx_S0 1 0 0 0 [some (.ref o), some (.int (nI i)), none] [] G I (fun rv Gz Iz => (fun rv I1 => rv = none ∧ stN I1 o (gDrop v i) ∧ mx_fr I I1 o (o + 5)) rv Iz ∧ Gz = G) (fun _ _ _ => False)
  have hw := hv.1
  obtain ⟨hg0, ⟨hg2, hg3, hg4⟩, ⟨hg5, hg6, hg7⟩, ⟨hg8, hg9, hg10⟩, ⟨hg11, hg12, hg13⟩⟩ := hs
  obtain ⟨⟨hP, hN, hb⟩, hv0, hv1, hF, hK, hT, hC⟩ := hv
  have L4 : ∀ (fq : Nat) (t : Nat) (I1 : mx_I), gN v - t < fq → (i + 1 ≤ t) → (t ≤ gN v) → (I1 o 0 = nI (gP v)) → (I1 o 1 = nI (gN v)) → (arN I1 (o + 1) (shf (gF v) i t) (gN v)) → (arN I1 (o + 2) (shf (gK v) i t) (gN v)) → (arN I1 (o + 3) (shf (gT v) i t) (gN v)) → (arN I1 (o + 4) (shf (gC v) i t) (gN v)) → (mx_fr I I1 o (o + 5)) → mx_V mX6_drop mx_S0 1 0 0 4 [some (.ref o), some (.int (nI i)), some (.int (nI t))] [] G I1 (fun rv Gz Iz => (fun rv I1 => rv = none ∧ stN I1 o (gDrop v i) ∧ mx_fr I I1 o (o + 5)) rv Iz ∧ Gz = G) (fun _ _ _ => False) := by
    intro fq
    induction fq with
    | zero => intro t I1 hfu; exact absurd hfu (Nat.not_lt_zero _)
    | succ fq ih =>
      intro t I1 hfu ht1 ht2 e0 e1 a1 a2 a3 a4 hfr
      refine mx_iload_n (i := 2) (hi := rfl) (hl := rfl) (hd := dX6_drop_4) ?_
      refine mx_aload_n (i := 0) (hi := rfl) (hl := rfl) (hd := dX6_drop_5) ?_
      refine mx_getV (ci := 6) (k := 1) (nI (gN v)) dX6_drop_6 k_168 (by decide) rfl (by assumption) e1 ?_
      refine mx_cmpN_ge 74 dX6_drop_9 (by decide) (by omega) (by omega) (fun c9 => ?_) (fun c9 => ?_)
      · skip
        refine mx_aload_n (i := 0) (hi := rfl) (hl := rfl) (hd := dX6_drop_74) ?_
        refine mx_dup (hva := rfl) (hd := dX6_drop_75) ?_
        refine mx_getV (ci := 6) (k := 1) (nI (gN v)) dX6_drop_76 k_168 (by decide) rfl (by assumption) e1 ?_
        refine mx_iconstN 1 dX6_drop_79 (by decide) ?_
        refine mx_isubN dX6_drop_80 (by omega) ?_
        refine mx_putI (ci := 6) (k := 1) dX6_drop_81 k_168 (by decide) rfl rfl rfl rfl (by assumption) ?_
        refine mx_vret dX6_drop_84 rfl (⟨⟨rfl, ⟨hw.drop i, ?_, ?_, ?_, ?_, ?_, ?_⟩, ?_⟩, rfl⟩)
        · rw [mx_u_at, if_neg (by omega)]; exact e0
        · rw [mx_u_at, if_pos ⟨rfl, rfl⟩]; rfl
        · exact (fun s hs => by have hs : s < gN v - 1 := hs; rw [mx_u_at, if_neg (by omega), a1 s (by omega), show t = gN v by omega, shf_n _ hs]; rfl)
        · exact (fun s hs => by have hs : s < gN v - 1 := hs; rw [mx_u_at, if_neg (by omega), a2 s (by omega), show t = gN v by omega, shf_n _ hs]; rfl)
        · exact (fun s hs => by have hs : s < gN v - 1 := hs; rw [mx_u_at, if_neg (by omega), a3 s (by omega), show t = gN v by omega, shf_n _ hs]; rfl)
        · exact (fun s hs => by have hs : s < gN v - 1 := hs; rw [mx_u_at, if_neg (by omega), a4 s (by omega), show t = gN v by omega, shf_n _ hs]; rfl)
        · exact hfr.u (by omega)
      · skip
        refine mx_aload_n (i := 0) (hi := rfl) (hl := rfl) (hd := dX6_drop_12) ?_
        refine mx_getR (ci := 6) (k := 2) (r := (o + 1)) dX6_drop_13 k_173 (by decide) rfl (by assumption) (by assumption) (by omega) ?_
        refine mx_iload_n (i := 2) (hi := rfl) (hl := rfl) (hd := dX6_drop_16) ?_
        refine mx_iconstN 1 dX6_drop_17 (by decide) ?_
        refine mx_isubN dX6_drop_18 (by omega) ?_
        refine mx_aload_n (i := 0) (hi := rfl) (hl := rfl) (hd := dX6_drop_19) ?_
        refine mx_getR (ci := 6) (k := 2) (r := (o + 1)) dX6_drop_20 k_173 (by decide) rfl (by assumption) (by assumption) (by omega) ?_
        refine mx_iload_n (i := 2) (hi := rfl) (hl := rfl) (hd := dX6_drop_23) ?_
        refine mx_ialdV t (nI (shf (gF v) i t t)) dX6_drop_24 (by assumption) ⟨rfl, by omega, by omega⟩ (a1 t (by omega)) ?_
        refine mx_iast (t - 1) dX6_drop_25 (by assumption) ⟨rfl, by omega, by omega⟩ ?_
        refine mx_aload_n (i := 0) (hi := rfl) (hl := rfl) (hd := dX6_drop_26) ?_
        refine mx_getR (ci := 6) (k := 3) (r := (o + 2)) dX6_drop_27 k_178 (by decide) rfl (by assumption) (by assumption) (by omega) ?_
        refine mx_iload_n (i := 2) (hi := rfl) (hl := rfl) (hd := dX6_drop_30) ?_
        refine mx_iconstN 1 dX6_drop_31 (by decide) ?_
        refine mx_isubN dX6_drop_32 (by omega) ?_
        refine mx_aload_n (i := 0) (hi := rfl) (hl := rfl) (hd := dX6_drop_33) ?_
        refine mx_getR (ci := 6) (k := 3) (r := (o + 2)) dX6_drop_34 k_178 (by decide) rfl (by assumption) (by assumption) (by omega) ?_
        refine mx_iload_n (i := 2) (hi := rfl) (hl := rfl) (hd := dX6_drop_37) ?_
        refine mx_ialdV t (nI (shf (gK v) i t t)) dX6_drop_38 (by assumption) ⟨rfl, by omega, by omega⟩ (by rw [mx_u_at, if_neg (by omega)]; exact (a2 t (by omega))) ?_
        refine mx_iast (t - 1) dX6_drop_39 (by assumption) ⟨rfl, by omega, by omega⟩ ?_
        refine mx_aload_n (i := 0) (hi := rfl) (hl := rfl) (hd := dX6_drop_40) ?_
        refine mx_getR (ci := 6) (k := 4) (r := (o + 3)) dX6_drop_41 k_181 (by decide) rfl (by assumption) (by assumption) (by omega) ?_
        refine mx_iload_n (i := 2) (hi := rfl) (hl := rfl) (hd := dX6_drop_44) ?_
        refine mx_iconstN 1 dX6_drop_45 (by decide) ?_
        refine mx_isubN dX6_drop_46 (by omega) ?_
        refine mx_aload_n (i := 0) (hi := rfl) (hl := rfl) (hd := dX6_drop_47) ?_
        refine mx_getR (ci := 6) (k := 4) (r := (o + 3)) dX6_drop_48 k_181 (by decide) rfl (by assumption) (by assumption) (by omega) ?_
        refine mx_iload_n (i := 2) (hi := rfl) (hl := rfl) (hd := dX6_drop_51) ?_
        refine mx_ialdV t (nI (shf (gT v) i t t)) dX6_drop_52 (by assumption) ⟨rfl, by omega, by omega⟩ (by rw [mx_u_at, if_neg (by omega), mx_u_at, if_neg (by omega)]; exact (a3 t (by omega))) ?_
        refine mx_iast (t - 1) dX6_drop_53 (by assumption) ⟨rfl, by omega, by omega⟩ ?_
        refine mx_aload_n (i := 0) (hi := rfl) (hl := rfl) (hd := dX6_drop_54) ?_
        refine mx_getR (ci := 6) (k := 5) (r := (o + 4)) dX6_drop_55 k_186 (by decide) rfl (by assumption) (by assumption) (by omega) ?_
        refine mx_iload_n (i := 2) (hi := rfl) (hl := rfl) (hd := dX6_drop_58) ?_
        refine mx_iconstN 1 dX6_drop_59 (by decide) ?_
        refine mx_isubN dX6_drop_60 (by omega) ?_
        refine mx_aload_n (i := 0) (hi := rfl) (hl := rfl) (hd := dX6_drop_61) ?_
        refine mx_getR (ci := 6) (k := 5) (r := (o + 4)) dX6_drop_62 k_186 (by decide) rfl (by assumption) (by assumption) (by omega) ?_
        refine mx_iload_n (i := 2) (hi := rfl) (hl := rfl) (hd := dX6_drop_65) ?_
        refine mx_ialdV t (nI (shf (gC v) i t t)) dX6_drop_66 (by assumption) ⟨rfl, by omega, by omega⟩ (by rw [mx_u_at, if_neg (by omega), mx_u_at, if_neg (by omega), mx_u_at, if_neg (by omega)]; exact (a4 t (by omega))) ?_
        refine mx_iast (t - 1) dX6_drop_67 (by assumption) ⟨rfl, by omega, by omega⟩ ?_
        refine mx_iincE (i := 2) (ls' := [some (.ref o), some (.int (nI i)), some (.int (nI (t + 1)))]) 1 dX6_drop_68 rfl (by decide) (by decide) rfl rfl ?_
        refine mx_goto (tgt := 4) dX6_drop_71 (by decide) ?_
        exact ih (t + 1) _ (by omega) (by omega) (by omega) (by rw [mx_u_at, if_neg (by omega), mx_u_at, if_neg (by omega), mx_u_at, if_neg (by omega), mx_u_at, if_neg (by omega)]; exact e0) (by rw [mx_u_at, if_neg (by omega), mx_u_at, if_neg (by omega), mx_u_at, if_neg (by omega), mx_u_at, if_neg (by omega)]; exact e1) ((((((a1).u).o (by omega)).o (by omega)).o (by omega)).c (fun s _ => shf_st _ ht1 s)) ((((((a2).o (by omega)).u).o (by omega)).o (by omega)).c (fun s _ => shf_st _ ht1 s)) ((((((a3).o (by omega)).o (by omega)).u).o (by omega)).c (fun s _ => shf_st _ ht1 s)) ((((((a4).o (by omega)).o (by omega)).o (by omega)).u).c (fun s _ => shf_st _ ht1 s)) (((((hfr).u (by omega)).u (by omega)).u (by omega)).u (by omega))
  refine mx_iload_n (i := 1) (hi := rfl) (hl := rfl) (hd := dX6_drop_0) ?_
  refine mx_iconstN 1 dX6_drop_1 (by decide) ?_
  refine mx_iaddN dX6_drop_2 ?_
  refine mx_istoreE_n (i := 2) (ls' := [some (.ref o), some (.int (nI i)), some (.int (nI (i + 1)))]) (hi := rfl) (hd := dX6_drop_3) (hn := by decide) (hok := rfl) (hls := rfl) ?_
  exact L4 _ (i + 1) I (Nat.lt_succ_self _) (Nat.le_refl _) (by omega) hv0 hv1 (hF.c (fun s _ => (shf_0 _ i s).symm)) (hK.c (fun s _ => (shf_0 _ i s).symm)) (hT.c (fun s _ => (shf_0 _ i s).symm)) (hC.c (fun s _ => (shf_0 _ i s).symm)) (mx_fr.rf _ _ _)

set_option maxHeartbeats 4000000 in
set_option maxRecDepth 100000 in
theorem ct_swapKinds (G : mx_G) (I : mx_I) (o : Nat) (v : Gr) (hs : oST G o) (hv : stN I o v) (k l : Nat) (hk : k < 4) (hl : l < 4) : mx_CTi yX6_swapKinds mX6_swapKinds 1 [.ref o, .int (nI k), .int (nI l)] G I (fun rv I1 => rv = some (.int (nI (gCh (gK v) k l (gN v)))) ∧ stN I1 o (gSwp v k l) ∧ mx_fr I I1 o (o + 5)) := by
  refine mx_start (k := 2) (by decide) rfl rfl (fun h => nomatch h) (Nat.le_of_ble_eq_true rfl) ?_
  show mx_V mX6_swapKinds mx_S0 1 0 0 0 [some (.ref o), some (.int (nI k)), some (.int (nI l)), none, none] [] G I (fun rv Gz Iz => (fun rv I1 => rv = some (.int (nI (gCh (gK v) k l (gN v)))) ∧ stN I1 o (gSwp v k l) ∧ mx_fr I I1 o (o + 5)) rv Iz ∧ Gz = G) (fun _ _ _ => False)
  have hw := hv.1
  obtain ⟨hg0, ⟨hg2, hg3, hg4⟩, ⟨hg5, hg6, hg7⟩, ⟨hg8, hg9, hg10⟩, ⟨hg11, hg12, hg13⟩⟩ := hs
  obtain ⟨⟨hP, hN, hb⟩, hv0, hv1, hF, hK, hT, hC⟩ := hv
  have L5 : ∀ (fq : Nat) (s n : Nat) (I1 : mx_I), gN v - s < fq → (s ≤ gN v) → (n = gCh (gK v) k l s) → (I1 o 0 = nI (gP v)) → (I1 o 1 = nI (gN v)) → (arN I1 (o + 1) (gF v) (gN v)) → (arN I1 (o + 2) (swf (gK v) k l s) (gN v)) → (arN I1 (o + 3) (gT v) (gN v)) → (arN I1 (o + 4) (gC v) (gN v)) → (mx_fr I I1 o (o + 5)) → mx_V mX6_swapKinds mx_S0 1 0 0 5 [some (.ref o), some (.int (nI k)), some (.int (nI l)), some (.int (nI n)), some (.int (nI s))] [] G I1 (fun rv Gz Iz => (fun rv I1 => rv = some (.int (nI (gCh (gK v) k l (gN v)))) ∧ stN I1 o (gSwp v k l) ∧ mx_fr I I1 o (o + 5)) rv Iz ∧ Gz = G) (fun _ _ _ => False) := by
    intro fq
    induction fq with
    | zero => intro s n I1 hfu; exact absurd hfu (Nat.not_lt_zero _)
    | succ fq ih =>
      intro s n I1 hfu ht2 hx e0 e1 a1 a2 a3 a4 hfr
      refine mx_iload (i := 4) (hl := rfl) (hd := dX6_swapKinds_5) ?_
      refine mx_aload_n (i := 0) (hi := rfl) (hl := rfl) (hd := dX6_swapKinds_7) ?_
      refine mx_getV (ci := 6) (k := 1) (nI (gN v)) dX6_swapKinds_8 k_168 (by decide) rfl (by assumption) e1 ?_
      refine mx_cmpN_ge 73 dX6_swapKinds_11 (by decide) (by omega) (by omega) (fun c11 => ?_) (fun c11 => ?_)
      · skip
        refine mx_iload_n (i := 3) (hi := rfl) (hl := rfl) (hd := dX6_swapKinds_73) ?_
        refine mx_iret dX6_swapKinds_74 rfl rfl (⟨⟨by rw [hx, show s = gN v by omega], ⟨hw.swp hk hl, e0, e1, a1, ?_, a3, a4⟩, hfr⟩, rfl⟩)
        exact a2.c (fun j hj => by unfold swf; rw [if_pos (by omega)]; rfl)
      · skip
        refine mx_iload_n (i := 1) (hi := rfl) (hl := rfl) (hd := dX6_swapKinds_14) ?_
        refine mx_iload_n (i := 2) (hi := rfl) (hl := rfl) (hd := dX6_swapKinds_15) ?_
        refine mx_cmpN_eq 67 dX6_swapKinds_16 (by decide) (by omega) (by omega) (fun c16 => ?_) (fun c16 => ?_)
        · skip
          refine mx_iincE (i := 4) (ls' := [some (.ref o), some (.int (nI k)), some (.int (nI l)), some (.int (nI n)), some (.int (nI (s + 1)))]) 1 dX6_swapKinds_67 rfl (by decide) (by decide) rfl rfl ?_
          refine mx_goto (tgt := 5) dX6_swapKinds_70 (by decide) ?_
          exact ih (s + 1) _ _ (by omega) (by omega) (by rw [hx, gCh, if_neg (by omega), Nat.add_zero]) e0 e1 a1 (a2.c (fun j _ => swf_nt _ (by unfold gSw; first | (rw [if_neg c27, if_neg c38]) | (split <;> first | omega | (split <;> omega))) j)) a3 a4 hfr
        · skip
          refine mx_aload_n (i := 0) (hi := rfl) (hl := rfl) (hd := dX6_swapKinds_19) ?_
          refine mx_getR (ci := 6) (k := 3) (r := (o + 2)) dX6_swapKinds_20 k_178 (by decide) rfl (by assumption) (by assumption) (by omega) ?_
          refine mx_iload (i := 4) (hl := rfl) (hd := dX6_swapKinds_23) ?_
          refine mx_ialdV s (nI (gK v s)) dX6_swapKinds_25 (by assumption) ⟨rfl, by omega, by omega⟩ ((a2 s (by omega)).trans (congrArg nI (swf_s _ _ _ _))) ?_
          refine mx_iload_n (i := 1) (hi := rfl) (hl := rfl) (hd := dX6_swapKinds_26) ?_
          refine mx_cmpN_eq 41 dX6_swapKinds_27 (by decide) (by have := hb s (by omega); omega) (by omega) (fun c27 => ?_) (fun c27 => ?_)
          · skip
            refine mx_aload_n (i := 0) (hi := rfl) (hl := rfl) (hd := dX6_swapKinds_41) ?_
            refine mx_getR (ci := 6) (k := 3) (r := (o + 2)) dX6_swapKinds_42 k_178 (by decide) rfl (by assumption) (by assumption) (by omega) ?_
            refine mx_iload (i := 4) (hl := rfl) (hd := dX6_swapKinds_45) ?_
            refine mx_aload_n (i := 0) (hi := rfl) (hl := rfl) (hd := dX6_swapKinds_47) ?_
            refine mx_getR (ci := 6) (k := 3) (r := (o + 2)) dX6_swapKinds_48 k_178 (by decide) rfl (by assumption) (by assumption) (by omega) ?_
            refine mx_iload (i := 4) (hl := rfl) (hd := dX6_swapKinds_51) ?_
            refine mx_ialdV s (nI (gK v s)) dX6_swapKinds_53 (by assumption) ⟨rfl, by omega, by omega⟩ ((a2 s (by omega)).trans (congrArg nI (swf_s _ _ _ _))) ?_
            refine mx_iload_n (i := 1) (hi := rfl) (hl := rfl) (hd := dX6_swapKinds_54) ?_
            refine mx_cmpN_ne 62 dX6_swapKinds_55 (by decide) (by have := hb s (by omega); omega) (by omega) (fun c55 => ?_) (fun c55 => ?_)
            · skip
              refine mx_iload_n (i := 1) (hi := rfl) (hl := rfl) (hd := dX6_swapKinds_62) ?_
              refine mx_iast s dX6_swapKinds_63 (by assumption) ⟨rfl, by omega, by omega⟩ ?_
              refine mx_iincE (i := 3) (ls' := [some (.ref o), some (.int (nI k)), some (.int (nI l)), some (.int (nI (n + 1))), some (.int (nI s))]) 1 dX6_swapKinds_64 rfl (by decide) (by decide) rfl rfl ?_
              refine mx_iincE (i := 4) (ls' := [some (.ref o), some (.int (nI k)), some (.int (nI l)), some (.int (nI (n + 1))), some (.int (nI (s + 1)))]) 1 dX6_swapKinds_67 rfl (by decide) (by decide) rfl rfl ?_
              refine mx_goto (tgt := 5) dX6_swapKinds_70 (by decide) ?_
              exact ih (s + 1) _ _ (by omega) (by omega) (by rw [hx, gCh, if_pos (by omega)]) (by rw [mx_u_at, if_neg (by omega)]; exact e0) (by rw [mx_u_at, if_neg (by omega)]; exact e1) (a1.o (by omega)) (a2.u.c (fun j _ => swf_st _ (by unfold gSw; rw [if_neg c55, if_pos (by omega)]) j)) (a3.o (by omega)) (a4.o (by omega)) (hfr.u (by omega))
            · skip
              refine mx_iload_n (i := 2) (hi := rfl) (hl := rfl) (hd := dX6_swapKinds_58) ?_
              refine mx_goto (tgt := 63) dX6_swapKinds_59 (by decide) ?_
              refine mx_iast s dX6_swapKinds_63 (by assumption) ⟨rfl, by omega, by omega⟩ ?_
              refine mx_iincE (i := 3) (ls' := [some (.ref o), some (.int (nI k)), some (.int (nI l)), some (.int (nI (n + 1))), some (.int (nI s))]) 1 dX6_swapKinds_64 rfl (by decide) (by decide) rfl rfl ?_
              refine mx_iincE (i := 4) (ls' := [some (.ref o), some (.int (nI k)), some (.int (nI l)), some (.int (nI (n + 1))), some (.int (nI (s + 1)))]) 1 dX6_swapKinds_67 rfl (by decide) (by decide) rfl rfl ?_
              refine mx_goto (tgt := 5) dX6_swapKinds_70 (by decide) ?_
              exact ih (s + 1) _ _ (by omega) (by omega) (by rw [hx, gCh, if_pos (by omega)]) (by rw [mx_u_at, if_neg (by omega)]; exact e0) (by rw [mx_u_at, if_neg (by omega)]; exact e1) (a1.o (by omega)) (a2.u.c (fun j _ => swf_st _ (by unfold gSw; rw [if_pos c55]) j)) (a3.o (by omega)) (a4.o (by omega)) (hfr.u (by omega))
          · skip
            refine mx_aload_n (i := 0) (hi := rfl) (hl := rfl) (hd := dX6_swapKinds_30) ?_
            refine mx_getR (ci := 6) (k := 3) (r := (o + 2)) dX6_swapKinds_31 k_178 (by decide) rfl (by assumption) (by assumption) (by omega) ?_
            refine mx_iload (i := 4) (hl := rfl) (hd := dX6_swapKinds_34) ?_
            refine mx_ialdV s (nI (gK v s)) dX6_swapKinds_36 (by assumption) ⟨rfl, by omega, by omega⟩ ((a2 s (by omega)).trans (congrArg nI (swf_s _ _ _ _))) ?_
            refine mx_iload_n (i := 2) (hi := rfl) (hl := rfl) (hd := dX6_swapKinds_37) ?_
            refine mx_cmpN_ne 67 dX6_swapKinds_38 (by decide) (by have := hb s (by omega); omega) (by omega) (fun c38 => ?_) (fun c38 => ?_)
            · skip
              refine mx_iincE (i := 4) (ls' := [some (.ref o), some (.int (nI k)), some (.int (nI l)), some (.int (nI n)), some (.int (nI (s + 1)))]) 1 dX6_swapKinds_67 rfl (by decide) (by decide) rfl rfl ?_
              refine mx_goto (tgt := 5) dX6_swapKinds_70 (by decide) ?_
              exact ih (s + 1) _ _ (by omega) (by omega) (by rw [hx, gCh, if_neg (by omega), Nat.add_zero]) e0 e1 a1 (a2.c (fun j _ => swf_nt _ (by unfold gSw; first | (rw [if_neg c27, if_neg c38]) | (split <;> first | omega | (split <;> omega))) j)) a3 a4 hfr
            · skip
              refine mx_aload_n (i := 0) (hi := rfl) (hl := rfl) (hd := dX6_swapKinds_41) ?_
              refine mx_getR (ci := 6) (k := 3) (r := (o + 2)) dX6_swapKinds_42 k_178 (by decide) rfl (by assumption) (by assumption) (by omega) ?_
              refine mx_iload (i := 4) (hl := rfl) (hd := dX6_swapKinds_45) ?_
              refine mx_aload_n (i := 0) (hi := rfl) (hl := rfl) (hd := dX6_swapKinds_47) ?_
              refine mx_getR (ci := 6) (k := 3) (r := (o + 2)) dX6_swapKinds_48 k_178 (by decide) rfl (by assumption) (by assumption) (by omega) ?_
              refine mx_iload (i := 4) (hl := rfl) (hd := dX6_swapKinds_51) ?_
              refine mx_ialdV s (nI (gK v s)) dX6_swapKinds_53 (by assumption) ⟨rfl, by omega, by omega⟩ ((a2 s (by omega)).trans (congrArg nI (swf_s _ _ _ _))) ?_
              refine mx_iload_n (i := 1) (hi := rfl) (hl := rfl) (hd := dX6_swapKinds_54) ?_
              refine mx_cmpN_ne 62 dX6_swapKinds_55 (by decide) (by have := hb s (by omega); omega) (by omega) (fun c55 => ?_) (fun c55 => ?_)
              · skip
                refine mx_iload_n (i := 1) (hi := rfl) (hl := rfl) (hd := dX6_swapKinds_62) ?_
                refine mx_iast s dX6_swapKinds_63 (by assumption) ⟨rfl, by omega, by omega⟩ ?_
                refine mx_iincE (i := 3) (ls' := [some (.ref o), some (.int (nI k)), some (.int (nI l)), some (.int (nI (n + 1))), some (.int (nI s))]) 1 dX6_swapKinds_64 rfl (by decide) (by decide) rfl rfl ?_
                refine mx_iincE (i := 4) (ls' := [some (.ref o), some (.int (nI k)), some (.int (nI l)), some (.int (nI (n + 1))), some (.int (nI (s + 1)))]) 1 dX6_swapKinds_67 rfl (by decide) (by decide) rfl rfl ?_
                refine mx_goto (tgt := 5) dX6_swapKinds_70 (by decide) ?_
                exact ih (s + 1) _ _ (by omega) (by omega) (by rw [hx, gCh, if_pos (by omega)]) (by rw [mx_u_at, if_neg (by omega)]; exact e0) (by rw [mx_u_at, if_neg (by omega)]; exact e1) (a1.o (by omega)) (a2.u.c (fun j _ => swf_st _ (by unfold gSw; rw [if_neg c55, if_pos (by omega)]) j)) (a3.o (by omega)) (a4.o (by omega)) (hfr.u (by omega))
              · skip
                refine mx_iload_n (i := 2) (hi := rfl) (hl := rfl) (hd := dX6_swapKinds_58) ?_
                refine mx_goto (tgt := 63) dX6_swapKinds_59 (by decide) ?_
                refine mx_iast s dX6_swapKinds_63 (by assumption) ⟨rfl, by omega, by omega⟩ ?_
                refine mx_iincE (i := 3) (ls' := [some (.ref o), some (.int (nI k)), some (.int (nI l)), some (.int (nI (n + 1))), some (.int (nI s))]) 1 dX6_swapKinds_64 rfl (by decide) (by decide) rfl rfl ?_
                refine mx_iincE (i := 4) (ls' := [some (.ref o), some (.int (nI k)), some (.int (nI l)), some (.int (nI (n + 1))), some (.int (nI (s + 1)))]) 1 dX6_swapKinds_67 rfl (by decide) (by decide) rfl rfl ?_
                refine mx_goto (tgt := 5) dX6_swapKinds_70 (by decide) ?_
                exact ih (s + 1) _ _ (by omega) (by omega) (by rw [hx, gCh, if_pos (by omega)]) (by rw [mx_u_at, if_neg (by omega)]; exact e0) (by rw [mx_u_at, if_neg (by omega)]; exact e1) (a1.o (by omega)) (a2.u.c (fun j _ => swf_st _ (by unfold gSw; rw [if_pos c55]) j)) (a3.o (by omega)) (a4.o (by omega)) (hfr.u (by omega))
  refine mx_iconstN 0 dX6_swapKinds_0 (by decide) ?_
  refine mx_istoreE_n (i := 3) (ls' := [some (.ref o), some (.int (nI k)), some (.int (nI l)), some (.int (nI 0)), none]) (hi := rfl) (hd := dX6_swapKinds_1) (hn := by decide) (hok := rfl) (hls := rfl) ?_
  refine mx_iconstN 0 dX6_swapKinds_2 (by decide) ?_
  refine mx_istoreE (i := 4) (ls' := [some (.ref o), some (.int (nI k)), some (.int (nI l)), some (.int (nI 0)), some (.int (nI 0))]) (hd := dX6_swapKinds_3) (hn := by decide) (hok := rfl) (hls := rfl) ?_
  exact L5 _ 0 0 I (Nat.lt_succ_self _) (Nat.zero_le _) rfl hv0 hv1 hF (hK.c (fun s _ => by unfold swf; rw [if_neg (Nat.not_lt_zero _)])) hT hC (mx_fr.rf _ _ _)

set_option maxHeartbeats 4000000 in
set_option maxRecDepth 100000 in
theorem ct_copyFrom (G : mx_G) (I : mx_I) (o p pt : Nat) (v : Gr) (hs : oST G o) (hs2 : oST G p) (hv : stN I p v) (hd : o + 5 ≤ p ∨ p + 5 ≤ o) (hpt : mx_rf G p 6 = pt) (hpt2 : mx_tg G pt = 12) : mx_CT yX6_copyFrom mX6_copyFrom 1 0 0 [.ref o, .ref p] G I (fun rv Gz Iz => rv = none ∧ Gz = mx_uR G o 6 pt ∧ stN Iz o v ∧ mx_fr I Iz o (o + 5)) (fun _ _ _ => False) := by
  refine mx_start (k := 1) (by decide) rfl rfl (fun h => nomatch h) (Nat.le_of_ble_eq_true rfl) ?_
  show mx_V mX6_copyFrom mx_S0 1 0 0 0 [some (.ref o), some (.ref p), none] [] G I (fun rv Gz Iz => rv = none ∧ Gz = mx_uR G o 6 pt ∧ stN Iz o v ∧ mx_fr I Iz o (o + 5)) (fun _ _ _ => False)
  have hw := hv.1
  obtain ⟨⟨hP, hN, hb⟩, hv0, hv1, hF, hK, hT, hC⟩ := hv
  obtain ⟨hg0, ⟨hg2, hg3, hg4⟩, ⟨hg5, hg6, hg7⟩, ⟨hg8, hg9, hg10⟩, ⟨hg11, hg12, hg13⟩⟩ := hs
  obtain ⟨hq0, ⟨hq2, hq3, hq4⟩, ⟨hq5, hq6, hq7⟩, ⟨hq8, hq9, hq10⟩, ⟨hq11, hq12, hq13⟩⟩ := hs2
  have L18 : ∀ (fq : Nat) (s : Nat) (I1 : mx_I), gN v - s < fq → (s ≤ gN v) → (I1 o 0 = nI (gP v)) → (I1 o 1 = nI (gN v)) → (arN I1 (o + 1) (gF v) s) → (arN I1 (o + 2) (gK v) s) → (arN I1 (o + 3) (gT v) s) → (arN I1 (o + 4) (gC v) s) → (mx_fr I I1 o (o + 5)) → mx_V mX6_copyFrom mx_S0 1 0 0 18 [some (.ref o), some (.ref p), some (.int (nI s))] [] G I1 (fun rv Gz Iz => rv = none ∧ Gz = mx_uR G o 6 pt ∧ stN Iz o v ∧ mx_fr I Iz o (o + 5)) (fun _ _ _ => False) := by
    intro fq
    induction fq with
    | zero => intro s I1 hfu; exact absurd hfu (Nat.not_lt_zero _)
    | succ fq ih =>
      intro s I1 hfu ht2 e0 e1 a1 a2 a3 a4 hfr
      refine mx_iload_n (i := 2) (hi := rfl) (hl := rfl) (hd := dX6_copyFrom_18) ?_
      refine mx_aload_n (i := 0) (hi := rfl) (hl := rfl) (hd := dX6_copyFrom_19) ?_
      refine mx_getV (ci := 6) (k := 1) (nI (gN v)) dX6_copyFrom_20 k_168 (by decide) rfl (by assumption) e1 ?_
      refine mx_cmpN_ge 80 dX6_copyFrom_23 (by decide) (by omega) (by omega) (fun c23 => ?_) (fun c23 => ?_)
      · skip
        refine mx_aload_n (i := 0) (hi := rfl) (hl := rfl) (hd := dX6_copyFrom_80) ?_
        refine mx_aload_n (i := 1) (hi := rfl) (hl := rfl) (hd := dX6_copyFrom_81) ?_
        refine mx_getR (ci := 6) (k := 6) (r := pt) dX6_copyFrom_82 k_191 (by decide) rfl (by assumption) (by assumption) (by omega) ?_
        refine mx_putR (ci := 6) (k := 6) dX6_copyFrom_85 k_191 (by decide) rfl rfl (by assumption) (by omega) ?_
        exact mx_vret dX6_copyFrom_88 rfl (⟨rfl, rfl, ⟨hw, e0, e1, (show s = gN v by omega) ▸ a1, (show s = gN v by omega) ▸ a2, (show s = gN v by omega) ▸ a3, (show s = gN v by omega) ▸ a4⟩, hfr⟩)
      · skip
        refine mx_aload_n (i := 0) (hi := rfl) (hl := rfl) (hd := dX6_copyFrom_26) ?_
        refine mx_getR (ci := 6) (k := 2) (r := (o + 1)) dX6_copyFrom_27 k_173 (by decide) rfl (by assumption) (by assumption) (by omega) ?_
        refine mx_iload_n (i := 2) (hi := rfl) (hl := rfl) (hd := dX6_copyFrom_30) ?_
        refine mx_aload_n (i := 1) (hi := rfl) (hl := rfl) (hd := dX6_copyFrom_31) ?_
        refine mx_getR (ci := 6) (k := 2) (r := (p + 1)) dX6_copyFrom_32 k_173 (by decide) rfl (by assumption) (by assumption) (by omega) ?_
        refine mx_iload_n (i := 2) (hi := rfl) (hl := rfl) (hd := dX6_copyFrom_35) ?_
        refine mx_ialdV s (nI (gF v s)) dX6_copyFrom_36 (by assumption) ⟨rfl, by omega, by omega⟩ (hF.f hfr (by omega) s (by omega)) ?_
        refine mx_iast s dX6_copyFrom_37 (by assumption) ⟨rfl, by omega, by omega⟩ ?_
        refine mx_aload_n (i := 0) (hi := rfl) (hl := rfl) (hd := dX6_copyFrom_38) ?_
        refine mx_getR (ci := 6) (k := 3) (r := (o + 2)) dX6_copyFrom_39 k_178 (by decide) rfl (by assumption) (by assumption) (by omega) ?_
        refine mx_iload_n (i := 2) (hi := rfl) (hl := rfl) (hd := dX6_copyFrom_42) ?_
        refine mx_aload_n (i := 1) (hi := rfl) (hl := rfl) (hd := dX6_copyFrom_43) ?_
        refine mx_getR (ci := 6) (k := 3) (r := (p + 2)) dX6_copyFrom_44 k_178 (by decide) rfl (by assumption) (by assumption) (by omega) ?_
        refine mx_iload_n (i := 2) (hi := rfl) (hl := rfl) (hd := dX6_copyFrom_47) ?_
        refine mx_ialdV s (nI (gK v s)) dX6_copyFrom_48 (by assumption) ⟨rfl, by omega, by omega⟩ (by rw [mx_u_at, if_neg (by omega)]; exact (hK.f hfr (by omega) s (by omega))) ?_
        refine mx_iast s dX6_copyFrom_49 (by assumption) ⟨rfl, by omega, by omega⟩ ?_
        refine mx_aload_n (i := 0) (hi := rfl) (hl := rfl) (hd := dX6_copyFrom_50) ?_
        refine mx_getR (ci := 6) (k := 4) (r := (o + 3)) dX6_copyFrom_51 k_181 (by decide) rfl (by assumption) (by assumption) (by omega) ?_
        refine mx_iload_n (i := 2) (hi := rfl) (hl := rfl) (hd := dX6_copyFrom_54) ?_
        refine mx_aload_n (i := 1) (hi := rfl) (hl := rfl) (hd := dX6_copyFrom_55) ?_
        refine mx_getR (ci := 6) (k := 4) (r := (p + 3)) dX6_copyFrom_56 k_181 (by decide) rfl (by assumption) (by assumption) (by omega) ?_
        refine mx_iload_n (i := 2) (hi := rfl) (hl := rfl) (hd := dX6_copyFrom_59) ?_
        refine mx_ialdV s (nI (gT v s)) dX6_copyFrom_60 (by assumption) ⟨rfl, by omega, by omega⟩ (by rw [mx_u_at, if_neg (by omega), mx_u_at, if_neg (by omega)]; exact (hT.f hfr (by omega) s (by omega))) ?_
        refine mx_iast s dX6_copyFrom_61 (by assumption) ⟨rfl, by omega, by omega⟩ ?_
        refine mx_aload_n (i := 0) (hi := rfl) (hl := rfl) (hd := dX6_copyFrom_62) ?_
        refine mx_getR (ci := 6) (k := 5) (r := (o + 4)) dX6_copyFrom_63 k_186 (by decide) rfl (by assumption) (by assumption) (by omega) ?_
        refine mx_iload_n (i := 2) (hi := rfl) (hl := rfl) (hd := dX6_copyFrom_66) ?_
        refine mx_aload_n (i := 1) (hi := rfl) (hl := rfl) (hd := dX6_copyFrom_67) ?_
        refine mx_getR (ci := 6) (k := 5) (r := (p + 4)) dX6_copyFrom_68 k_186 (by decide) rfl (by assumption) (by assumption) (by omega) ?_
        refine mx_iload_n (i := 2) (hi := rfl) (hl := rfl) (hd := dX6_copyFrom_71) ?_
        refine mx_ialdV s (nI (gC v s)) dX6_copyFrom_72 (by assumption) ⟨rfl, by omega, by omega⟩ (by rw [mx_u_at, if_neg (by omega), mx_u_at, if_neg (by omega), mx_u_at, if_neg (by omega)]; exact (hC.f hfr (by omega) s (by omega))) ?_
        refine mx_iast s dX6_copyFrom_73 (by assumption) ⟨rfl, by omega, by omega⟩ ?_
        refine mx_iincE (i := 2) (ls' := [some (.ref o), some (.ref p), some (.int (nI (s + 1)))]) 1 dX6_copyFrom_74 rfl (by decide) (by decide) rfl rfl ?_
        refine mx_goto (tgt := 18) dX6_copyFrom_77 (by decide) ?_
        exact ih (s + 1) _ (by omega) (by omega) (by rw [mx_u_at, if_neg (by omega), mx_u_at, if_neg (by omega), mx_u_at, if_neg (by omega), mx_u_at, if_neg (by omega)]; exact e0) (by rw [mx_u_at, if_neg (by omega), mx_u_at, if_neg (by omega), mx_u_at, if_neg (by omega), mx_u_at, if_neg (by omega)]; exact e1) ((((((a1).up).o (by omega)).o (by omega)).o (by omega)).c (fun j _ => by by_cases e : j = s <;> simp [e])) ((((((a2).o (by omega)).up).o (by omega)).o (by omega)).c (fun j _ => by by_cases e : j = s <;> simp [e])) ((((((a3).o (by omega)).o (by omega)).up).o (by omega)).c (fun j _ => by by_cases e : j = s <;> simp [e])) ((((((a4).o (by omega)).o (by omega)).o (by omega)).up).c (fun j _ => by by_cases e : j = s <;> simp [e])) (((((hfr).u (by omega)).u (by omega)).u (by omega)).u (by omega))
  refine mx_aload_n (i := 0) (hi := rfl) (hl := rfl) (hd := dX6_copyFrom_0) ?_
  refine mx_aload_n (i := 1) (hi := rfl) (hl := rfl) (hd := dX6_copyFrom_1) ?_
  refine mx_getV (ci := 6) (k := 0) (nI (gP v)) dX6_copyFrom_2 k_163 (by decide) rfl (by assumption) hv0 ?_
  refine mx_putI (ci := 6) (k := 0) dX6_copyFrom_5 k_163 (by decide) rfl rfl rfl rfl (by assumption) ?_
  refine mx_aload_n (i := 0) (hi := rfl) (hl := rfl) (hd := dX6_copyFrom_8) ?_
  refine mx_aload_n (i := 1) (hi := rfl) (hl := rfl) (hd := dX6_copyFrom_9) ?_
  refine mx_getV (ci := 6) (k := 1) (nI (gN v)) dX6_copyFrom_10 k_168 (by decide) rfl (by assumption) (by rw [mx_u_at, if_neg (by omega)]; exact hv1) ?_
  refine mx_putI (ci := 6) (k := 1) dX6_copyFrom_13 k_168 (by decide) rfl rfl rfl rfl (by assumption) ?_
  refine mx_iconstN 0 dX6_copyFrom_16 (by decide) ?_
  refine mx_istoreE_n (i := 2) (ls' := [some (.ref o), some (.ref p), some (.int (nI 0))]) (hi := rfl) (hd := dX6_copyFrom_17) (hn := by decide) (hok := rfl) (hls := rfl) ?_
  exact L18 _ 0 _ (Nat.lt_succ_self _) (Nat.zero_le _) (by rw [mx_u_at, if_neg (by omega), mx_u_at, if_pos ⟨rfl, rfl⟩]) (by rw [mx_u_at, if_pos ⟨rfl, rfl⟩]) (fun s hs => absurd hs (Nat.not_lt_zero _)) (fun s hs => absurd hs (Nat.not_lt_zero _)) (fun s hs => absurd hs (Nat.not_lt_zero _)) (fun s hs => absurd hs (Nat.not_lt_zero _)) (((mx_fr.rf _ _ _).u (by omega)).u (by omega))

set_option maxHeartbeats 4000000 in
set_option maxRecDepth 100000 in
theorem ct_clear (G : mx_G) (I : mx_I) (o pt : Nat) (hs : oST G o) (hpt2 : mx_tg G pt = 12) : mx_CT yX6_clear mX6_clear 1 0 0 [.ref o, .ref pt] G I (fun rv Gz Iz => rv = none ∧ Gz = mx_uR G o 6 pt ∧ Iz = mx_u (mx_u I o 0 (nI 0)) o 1 (nI 0)) (fun _ _ _ => False) := by
  refine mx_start (k := 0) (by decide) rfl rfl (fun h => nomatch h) (Nat.le_of_ble_eq_true rfl) ?_
  show mx_V mX6_clear mx_S0 1 0 0 0 [some (.ref o), some (.ref pt)] [] G I (fun rv Gz Iz => rv = none ∧ Gz = mx_uR G o 6 pt ∧ Iz = mx_u (mx_u I o 0 (nI 0)) o 1 (nI 0)) (fun _ _ _ => False)
  obtain ⟨hg0, ⟨hg2, hg3, hg4⟩, ⟨hg5, hg6, hg7⟩, ⟨hg8, hg9, hg10⟩, ⟨hg11, hg12, hg13⟩⟩ := hs
  refine mx_aload_n (i := 0) (hi := rfl) (hl := rfl) (hd := dX6_clear_0) ?_
  refine mx_iconstN 0 dX6_clear_1 (by decide) ?_
  refine mx_putI (ci := 6) (k := 0) dX6_clear_2 k_163 (by decide) rfl rfl rfl rfl (by assumption) ?_
  refine mx_aload_n (i := 0) (hi := rfl) (hl := rfl) (hd := dX6_clear_5) ?_
  refine mx_iconstN 0 dX6_clear_6 (by decide) ?_
  refine mx_putI (ci := 6) (k := 1) dX6_clear_7 k_168 (by decide) rfl rfl rfl rfl (by assumption) ?_
  refine mx_aload_n (i := 0) (hi := rfl) (hl := rfl) (hd := dX6_clear_10) ?_
  refine mx_aload_n (i := 1) (hi := rfl) (hl := rfl) (hd := dX6_clear_11) ?_
  refine mx_putR (ci := 6) (k := 6) dX6_clear_12 k_191 (by decide) rfl rfl (by assumption) (by omega) ?_
  exact mx_vret dX6_clear_15 rfl (⟨rfl, rfl, rfl⟩)
