/-! WHAT THE ANSWERS ARE, by walks -/
/-! of 58.eq1 -/
theorem prB_0 (v : Gr) : prB v 0 = gC v := by
  funext s
  unfold prB
  rw [Nat.zero_testBit, if_neg (fun q => Bool.noConfusion q)]
theorem prB_M (v : Gr) : prB v 0 = prM v none := (prB_0 v).trans (prM_0 v).symm
theorem sCs_0 {v : Gr} {A : Pa} (hv : wfG v) (hA : wfP A) (hP : inP v) {p r : Nat} (hp : p < gP v) (hr : r < gP v) : sCs v A p (some r) 0 1512 r = bC v A (prM v none) p r := by
  have h8 : gP v ≤ 8 := hv.1
  rw [sCs_one hv hA hP hp hr, prB_M]
  exact cutO_all hv hA (fun s hs => prM_9 hv none s hs) (by omega)
theorem sCs_b {v : Gr} {A : Pa} (hv : wfG v) (hA : wfP A) (hP : inP v) {p r bl : Nat} (hp : p < gP v) (hr : r < gP v) : sCs v A p (some r) bl 1512 r = bC v A (prB v bl) p r := by
  have h8 : gP v ≤ 8 := hv.1
  rw [sCs_one hv hA hP hp hr]
  exact cutO_all hv hA (fun s hs => prB_le hv bl s hs) (by omega)
theorem map_none {α β : Type} {f : α → β} {x : Option α} : x.map f = none ↔ x = none := by
  cases x with
  | none => exact ⟨fun _ => rfl, fun _ => rfl⟩
  | some y => exact ⟨fun q => (nomatch q), fun q => (nomatch q)⟩
theorem bC_n {v : Gr} {A : Pa} {pr : Nat → Nat} {p q : Nat} : bC v A pr p q = none ↔ bR v A pr (tgA A q) p 0 = none := map_none
/-- what is asked of the pure state -/
def vG (x : Vl) : Prop := wfG x.1 ∧ wfP (vA x) ∧ inP x.1 ∧ gN x.1 ≤ 24
section
variable {z : Zs}
theorem eq_cost (h : vG (zX z)) {p q : Nat} (hp : p < gP (zG z)) (hq : q < gP (zG z)) : an_cost z p q = am_cost z p q := sCs_0 h.1 h.2.1 h.2.2.1 hp hq
theorem gfm_M {v : Gr} {A : Pa} {q p : Nat} (hv : wfG v) (hA : wfP A) (hy : syP A) (hP : inP v) (hp : p < gP v) (hq : q < gP v) : gfm (aFin v A q).2.2.1 p = (bR v A (prM v none) (tgA A q) p 0).map Prod.snd := by
  have h8 : gP v ≤ 8 := hv.1
  have h1 := aFin_eq hv hA hy hP hq (a := p) (i := 0) (by omega) (by decide)
  rw [Nat.add_zero, ← prM_0] at h1
  unfold gfm
  rw [h1]
  cases e : bR v A (prM v none) (tgA A q) p 0 with
  | none => rfl
  | some y =>
    have h2 := bR_n hv hA (by omega) (by decide) e
    have h3 := bR_c hv hA (fun s hs => prM_9 hv none s hs) (by omega) (by decide) e
    show (if 256 * y.1 + y.2 = 387072 then none else some ((256 * y.1 + y.2) % 256)) = some y.2
    rw [if_neg (by omega), show (256 * y.1 + y.2) % 256 = y.2 by omega]
theorem vA_sy (x : Vl) : syP (vA x) := (auP_rdF x.2.2 x.2.1).2.2.2.1
theorem pfB_M {v : Gr} {A : Pa} (hv : wfG v) (hA : wfP A) (hP : inP v) {p : Nat} (hp : p < gP v) : ∀ n, n ≤ gP v → pfB (sCs v A p none 0 1512) n = rcM v A (prM v none) p n
  | 0, _ => rfl
  | q + 1, h => by
    have e : (sCs v A p none 0 1512 q = none) ↔ (bR v A (prM v none) (tgA A q) p 0 = none) := by
      rw [sCs_all hv hA hP hp (by omega), bC_n, prB_M]
    unfold pfB rcM
    rw [pfB_M hv hA hP hp q (by omega)]
    by_cases c : sCs v A p none 0 1512 q = none
    · rw [if_pos c, if_pos (e.mp c)]
    · rw [if_neg c, if_neg (fun w => c (e.mpr w))]
theorem ptB_M {v : Gr} {A : Pa} (hv : wfG v) (hA : wfP A) (hP : inP v) {q : Nat} (hq : q < gP v) : ∀ n, n ≤ gP v → ptB v A q n = tcM v A (prM v none) q n
  | 0, _ => rfl
  | p + 1, h => by
    have e : (sCs v A p (some q) 0 1512 q = none) ↔ (bR v A (prM v none) (tgA A q) p 0 = none) := by
      rw [sCs_0 hv hA hP (by omega) hq, bC_n]
    unfold ptB tcM
    rw [ptB_M hv hA hP hq p (by omega)]
    by_cases c : sCs v A p (some q) 0 1512 q = none
    · rw [if_pos c, if_pos (e.mp c)]
    · rw [if_neg c, if_neg (fun w => c (e.mpr w))]
end
theorem omx_n (a : Option Nat) : omx a none = a := by cases a <;> rfl
theorem omx_a (a b c : Option Nat) : omx (omx a b) c = omx a (omx b c) := by
  cases a with
  | none => rfl
  | some x =>
    cases b with
    | none => rfl
    | some y =>
      cases c with
      | none => rfl
      | some w =>
        show some (if (if x < y then y else x) < w then w else (if x < y then y else x)) = some (if x < (if y < w then w else y) then (if y < w then w else y) else x)
        congr 1
        (repeat' split) <;> omega
theorem opP_n (a : Nat × Option Nat) : opP a (0, none) = a := by
  show (a.1 + 0, omx a.2 none) = a
  rw [omx_n]
  rfl
theorem opP_a (a b c : Nat × Option Nat) : opP (opP a b) c = opP a (opP b c) := by
  show (a.1 + b.1 + c.1, omx (omx a.2 b.2) c.2) = (a.1 + (b.1 + c.1), omx a.2 (omx b.2 c.2))
  rw [Nat.add_assoc, omx_a]
/-- the sum over q below n -/
def sP (f : Nat → Nat × Option Nat) : Nat → Nat × Option Nat
  | 0 => (0, none)
  | n + 1 => opP (sP f n) (f n)
theorem svQ_S {cs : Nat → Option Nat} {g : Nat → Nat × Option Nat} {x : Nat × Option Nat} : ∀ n, (∀ i, i < n → g i = ((if cs i = none then 0 else 1), cs i)) → svQ cs n x = opP x (sP g n)
  | 0, _ => (opP_n x).symm
  | n + 1, h => by
    show ((svQ cs n x).1 + (if cs n = none then 0 else 1), omx (svQ cs n x).2 (cs n)) = opP x (opP (sP g n) (g n))
    rw [svQ_S n (fun i hi => h i (by omega)), h n (Nat.lt_succ_self n), ← opP_a]
    rfl
theorem pvO_c (x : Option (Nat × Nat)) : pvO x = ((if x.map Prod.fst = none then 0 else 1), x.map Prod.fst) := by
  cases x with
  | none => rfl
  | some y => rfl
theorem svP_S {v : Gr} {A : Pa} (hv : wfG v) (hA : wfP A) (hP : inP v) (bl : Nat) : ∀ n, n ≤ gP v → svP v A bl n = sP (fun p => sP (fun q => pvO (bR v A (prB v bl) (tgA A q) p 0)) (gP v)) n
  | 0, _ => rfl
  | p + 1, h => by
    show svQ (sCs v A p none bl 1512) (gP v) (svP v A bl p) = opP _ _
    rw [svP_S hv hA hP bl p (by omega)]
    refine svQ_S (gP v) (fun q hq => ?_)
    rw [sCs_all hv hA hP (by omega) hq]
    exact pvO_c _
section
variable {z : Zs}
end
/-! of 59.eq2 -/
theorem inP_put {v : Gr} (h : inP v) {p k q c : Nat} (hp : p < gP v) (hq : q < gP v) : inP (gPut v p k q c) := fun s hs => by
  have hs : s < gN v + 1 := hs
  show (if s = gN v then p else gF v s) < gP v ∧ (if s = gN v then q else gT v s) < gP v
  by_cases e : s = gN v
  · rw [if_pos e, if_pos e]; exact ⟨hp, hq⟩
  · rw [if_neg e, if_neg e]; exact h s (by omega)
section
variable {z : Zs}
end
theorem inP_drop {v : Gr} {i : Nat} (h : inP v) (hi : i < gN v) : inP (gDrop v i) := fun s hs => by
  have hs : s < gN v - 1 := hs
  show gDr (gF v) i s < gP v ∧ gDr (gT v) i s < gP v
  unfold gDr
  by_cases e : i ≤ s
  · rw [if_pos e, if_pos e]; exact h (s + 1) (by omega)
  · rw [if_neg e, if_neg e]; exact h s (by omega)
theorem inP_rev {v : Gr} {i : Nat} (h : inP v) (hi : i < gN v) : inP (gRev v i) := fun s hs => by
  have hs : s < gN v := hs
  show (if s = i then gT v i else gF v s) < gP v ∧ (if s = i then gF v i else gT v s) < gP v
  by_cases e : s = i
  · rw [if_pos e, if_pos e]; exact ⟨(h i hi).2, (h i hi).1⟩
  · rw [if_neg e, if_neg e]; exact h s hs
/-! of 61.law1 -/
/-- the steps of all graphs that are held join people that there are -/
def zI (z : Zs) : Prop := inP (zG z) ∧ (∀ j, j < zC z → inP (zH z j).1) ∧ ∀ s, s < 2 → zF z s = true → inP (zK z s).1
theorem zI.push {z : Zs} (h : zI z) : zI (zPush z) := by
  obtain ⟨h1, h2, h3⟩ := h
  refine ⟨h1, fun j hj => ?_, h3⟩
  have hj : j < min (zC z + 1) 14 := hj
  show inP (if zC z < 14 then (if j = zC z then zX z else zH z j) else (if j = 13 then zX z else zH z (j + 1))).1
  by_cases c : zC z < 14
  · rw [if_pos c]
    by_cases e : j = zC z
    · rw [if_pos e]; exact h1
    · rw [if_neg e]; exact h2 j (by omega)
  · rw [if_neg c]
    by_cases e : j = 13
    · rw [if_pos e]; exact h1
    · rw [if_neg e]; exact h2 (j + 1) (by omega)
theorem zI.set {z : Zs} {v : Gr} (h : zI z) (hv : inP v) : zI (zSet z v) := ⟨hv, h.2⟩
theorem zI.txt {z : Zs} (h : zI z) (t : Nat × (Nat → Nat)) : zI (t, z.2) := h
theorem zi_addPerson {z : Zs} (h : zI z) : zI (nx_addPerson z) := h.push.set (fun s hs => by
  have h1 := h.1 s hs
  show gF (zG z) s < gP (zG z) + 1 ∧ gT (zG z) s < gP (zG z) + 1
  omega)
theorem zi_addStep {z : Zs} (h : zI z) {p k q c : Int32} (hf : gWhy (zG z) p k q c = 0) : zI (nx_addStep z p.toInt.toNat k.toInt.toNat q.toInt.toNat c.toInt.toNat) := by
  obtain ⟨k1, -⟩ := gWhy_0 hf
  exact h.push.set (inP_put h.1 (tn_lt k1.1) (tn_lt k1.2))
theorem fl_one_0 {n : Nat} {s : Int32} (h : fl_one n s = 0) : 0 ≤ s.toInt ∧ s.toInt < (n : Int) := by
  unfold fl_one at h
  split at h
  · cases h
  · next c => exact Classical.not_not.mp c
theorem zi_removeStep {z : Zs} (h : zI z) {s : Int32} (hf : fl_one (gN (zG z)) s = 0) : zI (nx_removeStep z s.toInt.toNat) := h.push.set (inP_drop h.1 (tn_lt (fl_one_0 hf)))
theorem zi_setCost {z : Zs} (h : zI z) (s c : Nat) : zI (nx_setCost z s c) := h.push.set h.1
theorem zi_turn {z : Zs} (h : zI z) {s : Int32} (hf : fl_turn z s = 0) : zI (nx_turn z s.toInt.toNat) := h.push.set (inP_rev h.1 (tn_lt (fl_turn_0 hf).1))
theorem zi_exchange {z : Zs} (h : zI z) (k l : Nat) : zI (nx_exchange z k l) := h.push.set h.1
theorem zi_take {z : Zs} (h : zI z) : zI (nx_take z) := ⟨h.1, h.push.2⟩
theorem zi_undo {z : Zs} (h : zI z) (hf : fl_undo z = 0) : zI (nx_undo z) := by
  have hc : 0 < zC z := by
    unfold fl_undo at hf
    split at hf
    · assumption
    · cases hf
  exact ⟨h.2.1 (zC z - 1) (by omega), fun j hj => h.2.1 j (by have hj : j < zC z - 1 := hj; omega), h.2.2⟩
theorem zi_save {z : Zs} (h : zI z) (s : Nat) : zI (nx_save z s) := by
  refine ⟨h.1, h.2.1, fun j hj hf => ?_⟩
  have hf : (if j = s then true else zF z j) = true := hf
  show inP (if j = s then zX z else zK z j).1
  by_cases e : j = s
  · rw [if_pos e]; exact h.1
  · rw [if_neg e] at hf ⊢; exact h.2.2 j hj hf
theorem zi_restore {z : Zs} (h : zI z) {s : Int32} (hf : fl_restore z s = 0) : zI (nx_restore z s.toInt.toNat) := by
  unfold fl_restore at hf
  split at hf
  · cases hf
  · next c1 =>
    split at hf
    · cases hf
    · next c2 =>
      exact ⟨h.2.2 _ (lt2 (Classical.not_not.mp c1)) (Classical.not_not.mp c2), fun j hj => absurd hj (Nat.not_lt_zero _), h.2.2⟩
theorem vG_of {G : mx_G} {I : mx_I} {a : Nat} {z : Zs} (h : cW G I a z) (hz : zI z) : vG (zX z) := ⟨h.2.2.1.1.1, h.env.2.2.2.2.1, hz.1, h.2.2.1.2.1.1⟩
