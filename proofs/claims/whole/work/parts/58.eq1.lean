/-! WHAT THE CLASS ANSWERS IS WHAT THE REFERENCE ANSWERS (over graphs whose steps join people that there are) -/
theorem prB_0 (v : Gr) : prB v 0 = gC v := by
  funext s
  unfold prB
  rw [Nat.zero_testBit, if_neg (fun q => Bool.noConfusion q)]
theorem prB_pow (v : Gr) (s : Nat) : prB v (2 ^ s) = prM v (some s) := by
  funext t
  unfold prB prM
  by_cases e : s = t
  · subst e
    rw [Nat.testBit_two_pow_self, if_pos rfl, if_pos rfl]
  · rw [Nat.testBit_two_pow_of_ne e, if_neg (fun q => Bool.noConfusion q), if_neg (fun q => e (Option.some.inj q))]
theorem prB_M (v : Gr) : prB v 0 = prM v none := (prB_0 v).trans (prM_0 v).symm
theorem sCs_0 {v : Gr} {A : Pa} (hv : wfG v) (hA : wfP A) (hP : inP v) {p r : Nat} (hp : p < gP v) (hr : r < gP v) : sCs v A p (some r) 0 1512 r = bC v A (prM v none) p r := by
  have h8 : gP v ≤ 8 := hv.1
  rw [sCs_one hv hA hP hp hr, prB_M]
  exact cutO_all hv hA (fun s hs => prM_9 hv none s hs) (by omega)
theorem sCs_b {v : Gr} {A : Pa} (hv : wfG v) (hA : wfP A) (hP : inP v) {p r bl : Nat} (hp : p < gP v) (hr : r < gP v) : sCs v A p (some r) bl 1512 r = bC v A (prB v bl) p r := by
  have h8 : gP v ≤ 8 := hv.1
  rw [sCs_one hv hA hP hp hr]
  exact cutO_all hv hA (fun s hs => prB_le hv bl s hs) (by omega)
theorem map_none {α β : Type} {f : α → β} {x : Option α} : x.map f = none ↔ x = none := by
  cases x with
  | none => exact ⟨fun _ => rfl, fun _ => rfl⟩
  | some y => exact ⟨fun q => (nomatch q), fun q => (nomatch q)⟩
theorem bC_n {v : Gr} {A : Pa} {pr : Nat → Nat} {p q : Nat} : bC v A pr p q = none ↔ bR v A pr (tgA A q) p 0 = none := map_none
/-- what is asked of the pure state -/
def vG (x : Vl) : Prop := wfG x.1 ∧ wfP (vA x) ∧ inP x.1 ∧ gN x.1 ≤ 24
section
variable {z : Zs}
theorem eq_cost (h : vG (zX z)) {p q : Nat} (hp : p < gP (zG z)) (hq : q < gP (zG z)) : an_cost z p q = am_cost z p q := sCs_0 h.1 h.2.1 h.2.2.1 hp hq
theorem gfm_M {v : Gr} {A : Pa} {q p : Nat} (hv : wfG v) (hA : wfP A) (hy : syP A) (hP : inP v) (hp : p < gP v) (hq : q < gP v) : gfm (aFin v A q).2.2.1 p = (bR v A (prM v none) (tgA A q) p 0).map Prod.snd := by
  have h8 : gP v ≤ 8 := hv.1
  have h1 := aFin_eq hv hA hy hP hq (a := p) (i := 0) (by omega) (by decide)
  rw [Nat.add_zero, ← prM_0] at h1
  unfold gfm
  rw [h1]
  cases e : bR v A (prM v none) (tgA A q) p 0 with
  | none => rfl
  | some y =>
    have h2 := bR_n hv hA (by omega) (by decide) e
    have h3 := bR_c hv hA (fun s hs => prM_9 hv none s hs) (by omega) (by decide) e
    show (if 256 * y.1 + y.2 = 387072 then none else some ((256 * y.1 + y.2) % 256)) = some y.2
    rw [if_neg (by omega), show (256 * y.1 + y.2) % 256 = y.2 by omega]
theorem vA_sy (x : Vl) : syP (vA x) := (auP_rdF x.2.2 x.2.1).2.2.2.1
theorem eq_length (h : vG (zX z)) {p q : Nat} (hp : p < gP (zG z)) (hq : q < gP (zG z)) : an_length z p q = am_length z p q := gfm_M h.1 h.2.1 (vA_sy _) h.2.2.1 hp hq
theorem ndB_M {v : Gr} {A : Pa} (hv : wfG v) (hA : wfP A) (hP : inP v) {p q : Nat} (hp : p < gP v) (hq : q < gP v) : ∀ n, ndB v A p q n = ndM v A p q n
  | 0 => rfl
  | s + 1 => by
    have e : (sCs v A p (some q) (2 ^ s) 1512 q = none) ↔ (bR v A (prM v (some s)) (tgA A q) p 0 = none) := by
      rw [sCs_b hv hA hP hp hq, bC_n, prB_pow]
    unfold ndB ndM
    rw [ndB_M hv hA hP hp hq s]
    by_cases c : sCs v A p (some q) (2 ^ s) 1512 q = none
    · rw [if_pos c, if_pos (e.mp c)]
    · rw [if_neg c, if_neg (fun w => c (e.mpr w))]
theorem eq_needed (h : vG (zX z)) {p q : Nat} (hp : p < gP (zG z)) (hq : q < gP (zG z)) : an_needed z p q = am_needed z p q := by
  have e : (sCs (zG z) (vA (zX z)) p (some q) 0 1512 q = none) ↔ (bM z p q = none) := by
    rw [sCs_0 h.1 h.2.1 h.2.2.1 hp hq, bC_n]
  unfold an_needed am_needed
  rw [ndB_M h.1 h.2.1 h.2.2.1 hp hq]
  by_cases c : sCs (zG z) (vA (zX z)) p (some q) 0 1512 q = none
  · rw [if_pos c, if_pos (e.mp c)]
  · rw [if_neg c, if_neg (fun w => c (e.mpr w))]
theorem pfB_M {v : Gr} {A : Pa} (hv : wfG v) (hA : wfP A) (hP : inP v) {p : Nat} (hp : p < gP v) : ∀ n, n ≤ gP v → pfB (sCs v A p none 0 1512) n = rcM v A (prM v none) p n
  | 0, _ => rfl
  | q + 1, h => by
    have e : (sCs v A p none 0 1512 q = none) ↔ (bR v A (prM v none) (tgA A q) p 0 = none) := by
      rw [sCs_all hv hA hP hp (by omega), bC_n, prB_M]
    unfold pfB rcM
    rw [pfB_M hv hA hP hp q (by omega)]
    by_cases c : sCs v A p none 0 1512 q = none
    · rw [if_pos c, if_pos (e.mp c)]
    · rw [if_neg c, if_neg (fun w => c (e.mpr w))]
theorem ptB_M {v : Gr} {A : Pa} (hv : wfG v) (hA : wfP A) (hP : inP v) {q : Nat} (hq : q < gP v) : ∀ n, n ≤ gP v → ptB v A q n = tcM v A (prM v none) q n
  | 0, _ => rfl
  | p + 1, h => by
    have e : (sCs v A p (some q) 0 1512 q = none) ↔ (bR v A (prM v none) (tgA A q) p 0 = none) := by
      rw [sCs_0 hv hA hP (by omega) hq, bC_n]
    unfold ptB tcM
    rw [ptB_M hv hA hP hq p (by omega)]
    by_cases c : sCs v A p (some q) 0 1512 q = none
    · rw [if_pos c, if_pos (e.mp c)]
    · rw [if_neg c, if_neg (fun w => c (e.mpr w))]
theorem eq_person (h : vG (zX z)) {p w : Nat} (hp : p < gP (zG z)) (hw : w ≤ 3) : an_person z p w = am_person z p w := by
  unfold am_person
  rcases (show w = 0 ∨ w = 1 ∨ w = 2 ∨ w = 3 by omega) with rfl | rfl | rfl | rfl
  · rw [if_neg (by decide), if_neg (by decide)]
  · rw [if_neg (by decide), if_neg (by decide)]
  · rw [if_pos rfl, an_person_2]
    exact pfB_M h.1 h.2.1 h.2.2.1 hp _ (Nat.le_refl _)
  · rw [if_neg (by decide), if_pos rfl, an_person_3]
    exact ptB_M h.1 h.2.1 h.2.2.1 hp _ (Nat.le_refl _)
end
/-! pairs and the greatest: a sum over pairs, in either order -/
theorem omx_n (a : Option Nat) : omx a none = a := by cases a <;> rfl
theorem omx_0 (a : Option Nat) : omx none a = a := rfl
theorem omx_c (a b : Option Nat) : omx a b = omx b a := by
  cases a with
  | none => rw [omx_n]; rfl
  | some x =>
    cases b with
    | none => rfl
    | some y =>
      show some (if x < y then y else x) = some (if y < x then x else y)
      congr 1
      split <;> split <;> omega
theorem omx_a (a b c : Option Nat) : omx (omx a b) c = omx a (omx b c) := by
  cases a with
  | none => rfl
  | some x =>
    cases b with
    | none => rfl
    | some y =>
      cases c with
      | none => rfl
      | some w =>
        show some (if (if x < y then y else x) < w then w else (if x < y then y else x)) = some (if x < (if y < w then w else y) then (if y < w then w else y) else x)
        congr 1
        (repeat' split) <;> omega
theorem opP_n (a : Nat × Option Nat) : opP a (0, none) = a := by
  show (a.1 + 0, omx a.2 none) = a
  rw [omx_n]
  rfl
theorem opP_c (a b : Nat × Option Nat) : opP a b = opP b a := by
  show (a.1 + b.1, omx a.2 b.2) = (b.1 + a.1, omx b.2 a.2)
  rw [Nat.add_comm, omx_c]
theorem opP_a (a b c : Nat × Option Nat) : opP (opP a b) c = opP a (opP b c) := by
  show (a.1 + b.1 + c.1, omx (omx a.2 b.2) c.2) = (a.1 + (b.1 + c.1), omx a.2 (omx b.2 c.2))
  rw [Nat.add_assoc, omx_a]
/-- the sum over q below n -/
def sP (f : Nat → Nat × Option Nat) : Nat → Nat × Option Nat
  | 0 => (0, none)
  | n + 1 => opP (sP f n) (f n)
theorem sP_c {f g : Nat → Nat × Option Nat} : ∀ n, (∀ i, i < n → f i = g i) → sP f n = sP g n
  | 0, _ => rfl
  | n + 1, h => by
    show opP (sP f n) (f n) = opP (sP g n) (g n)
    rw [sP_c n (fun i hi => h i (by omega)), h n (Nat.lt_succ_self n)]
theorem sP_op (f g : Nat → Nat × Option Nat) : ∀ n, sP (fun i => opP (f i) (g i)) n = opP (sP f n) (sP g n)
  | 0 => rfl
  | n + 1 => by
    show opP (sP (fun i => opP (f i) (g i)) n) (opP (f n) (g n)) = opP (opP (sP f n) (f n)) (opP (sP g n) (g n))
    rw [sP_op f g n, opP_a, opP_a, ← opP_a (sP g n) (f n) (g n), opP_c (sP g n) (f n), opP_a (f n) (sP g n) (g n)]
theorem sP_0 : ∀ n, sP (fun _ => (0, none)) n = (0, none)
  | 0 => rfl
  | n + 1 => by
    show opP (sP (fun _ => (0, none)) n) (0, none) = (0, none)
    rw [sP_0 n]; rfl
theorem sP_x (f : Nat → Nat → Nat × Option Nat) (m : Nat) : ∀ n, sP (fun i => sP (fun j => f i j) m) n = sP (fun j => sP (fun i => f i j) n) m
  | 0 => (sP_0 m).symm
  | n + 1 => by
    show opP (sP (fun i => sP (fun j => f i j) m) n) (sP (fun j => f n j) m) = sP (fun j => opP (sP (fun i => f i j) n) (f n j)) m
    rw [sP_x f m n, sP_op (fun j => sP (fun i => f i j) n) (fun j => f n j) m]
theorem svQ_S {cs : Nat → Option Nat} {g : Nat → Nat × Option Nat} {x : Nat × Option Nat} : ∀ n, (∀ i, i < n → g i = ((if cs i = none then 0 else 1), cs i)) → svQ cs n x = opP x (sP g n)
  | 0, _ => (opP_n x).symm
  | n + 1, h => by
    show ((svQ cs n x).1 + (if cs n = none then 0 else 1), omx (svQ cs n x).2 (cs n)) = opP x (opP (sP g n) (g n))
    rw [svQ_S n (fun i hi => h i (by omega)), h n (Nat.lt_succ_self n), ← opP_a]
    rfl
theorem pvO_c (x : Option (Nat × Nat)) : pvO x = ((if x.map Prod.fst = none then 0 else 1), x.map Prod.fst) := by
  cases x with
  | none => rfl
  | some y => rfl
theorem svP_S {v : Gr} {A : Pa} (hv : wfG v) (hA : wfP A) (hP : inP v) (bl : Nat) : ∀ n, n ≤ gP v → svP v A bl n = sP (fun p => sP (fun q => pvO (bR v A (prB v bl) (tgA A q) p 0)) (gP v)) n
  | 0, _ => rfl
  | p + 1, h => by
    show svQ (sCs v A p none bl 1512) (gP v) (svP v A bl p) = opP _ _
    rw [svP_S hv hA hP bl p (by omega)]
    refine svQ_S (gP v) (fun q hq => ?_)
    rw [sCs_all hv hA hP (by omega) hq]
    exact pvO_c _
theorem lpI_S (v : Gr) (A : Pa) (pr : Nat → Nat) (q : Nat) (x : Nat × Option Nat) : ∀ n, lpI v A pr q n x = opP x (sP (fun p => pvO (bR v A pr (tgA A q) p 0)) n)
  | 0 => (opP_n x).symm
  | n + 1 => by
    show opP (lpI v A pr q n x) (pvO (bR v A pr (tgA A q) n 0)) = opP x (opP _ _)
    rw [lpI_S v A pr q x n, opP_a]
theorem lpO_S (v : Gr) (A : Pa) (pr : Nat → Nat) : ∀ n, lpO v A pr n = sP (fun q => sP (fun p => pvO (bR v A pr (tgA A q) p 0)) (gP v)) n
  | 0 => rfl
  | n + 1 => by
    show lpI v A pr n (gP v) (lpO v A pr n) = opP _ _
    rw [lpI_S, lpO_S v A pr n]
theorem svP_lpO {v : Gr} {A : Pa} (hv : wfG v) (hA : wfP A) (hP : inP v) (bl : Nat) : svP v A bl (gP v) = lpO v A (prB v bl) (gP v) := by
  rw [svP_S hv hA hP bl _ (Nat.le_refl _), lpO_S]
  exact sP_x (fun p q => pvO (bR v A (prB v bl) (tgA A q) p 0)) (gP v) (gP v)
theorem lpO_c {v w : Gr} {A : Pa} {pr pr' : Nat → Nat} (hP : gP w = gP v) (h : ∀ q p, bR w A pr' (tgA A q) p 0 = bR v A pr (tgA A q) p 0) (n : Nat) : lpO w A pr' n = lpO v A pr n := by
  rw [lpO_S, lpO_S, hP]
  exact sP_c n (fun q _ => sP_c _ (fun p _ => by rw [h q p]))
theorem eR_cg {v : Gr} {A : Pa} {c pr pr' : Nat → Nat} (e : ∀ s, s < gN v → pr' s = pr s) {a i b j k : Nat} : eR (cG v c) A pr' a i b j k ↔ eR v A pr a i b j k := by
  constructor
  · rintro ⟨s, hs, h1, h2, h3⟩
    exact ⟨s, hs, (e s hs).symm.trans h1, h2, h3⟩
  · rintro ⟨s, hs, h1, h2, h3⟩
    exact ⟨s, hs, (e s hs).trans h1, h2, h3⟩
theorem bR_cg {v : Gr} {A : Pa} {c pr pr' : Nat → Nat} (e : ∀ s, s < gN v → pr' s = pr s) {T : Nat → Nat → Prop} {a i : Nat} : bR (cG v c) A pr' T a i = bR v A pr T a i :=
  bR_congr (fun n k => ⟨fR_mono (fun _ _ _ _ _ h => (eR_cg e).mp h) (fun _ _ h => h) n k a i, fR_mono (fun _ _ _ _ _ h => (eR_cg e).mpr h) (fun _ _ h => h) n k a i⟩)
section
variable {z : Zs}
theorem eq_about (h : vG (zX z)) {w : Nat} (hw : w ≤ 7) : an_about z w = am_about z w := by
  have e : svP (zG z) (vA (zX z)) 0 (gP (zG z)) = lpO (zG z) (vA (zX z)) (prM (zG z) none) (gP (zG z)) := by
    rw [svP_lpO h.1 h.2.1 h.2.2.1 0, prB_M]
  unfold am_about
  by_cases c5 : w = 5
  · rw [if_pos c5, c5, an_about_5, e]
  · rw [if_neg c5]
    by_cases c7 : w = 7
    · rw [if_pos c7, c7, an_about_7, e]
    · rw [if_neg c7]
theorem blN_bit (x : Int64) : ∀ n s, s < n → ((blN x n).testBit s = true ↔ lcr (lcN x (s + 1)) / 16 % 8 = 0)
  | n + 1, s, hs => by
    unfold blN
    rw [Nat.testBit_or, Bool.or_eq_true]
    by_cases e : s = n
    · subst e
      have h1 : (blN x s).testBit s = false := Nat.testBit_lt_two_pow (blN_lt x s)
      rw [h1]
      by_cases c : lcr (lcN x (s + 1)) / 16 % 8 = 0
      · rw [if_pos c, Nat.testBit_two_pow_self]
        exact ⟨fun _ => c, fun _ => Or.inr rfl⟩
      · rw [if_neg c, Nat.zero_testBit]
        exact ⟨fun q => q.elim (fun w => Bool.noConfusion w) (fun w => Bool.noConfusion w), fun q => absurd q c⟩
    · have h1 := blN_bit x n s (by omega)
      have h2 : (if lcr (lcN x (n + 1)) / 16 % 8 = 0 then 2 ^ n else 0).testBit s = false := by
        split
        · exact Nat.testBit_two_pow_of_ne (fun q => e q.symm)
        · exact Nat.zero_testBit s
      rw [h2]
      exact ⟨fun q => q.elim h1.mp (fun w => Bool.noConfusion w), fun q => Or.inl (h1.mpr q)⟩
theorem m9_1 (r : Nat) : 1 ≤ 1 + r % 9 := by omega
theorem m9_2 (r : Nat) : 1 + r % 9 ≤ 9 := by omega
theorem dc_1 (x : Int64) (s : Nat) : 1 ≤ dcF x s := by
  unfold dcF
  exact m9_1 _
theorem dc_2 (x : Int64) (s : Nat) : dcF x s ≤ 9 := by
  unfold dcF
  exact m9_2 _
theorem cg_C (v : Gr) (c : Nat → Nat) (s : Nat) : gC (cG v c) s = c s := rfl
theorem wf_cgc {v : Gr} {c : Nat → Nat} (hv : wfG v) (hc : ∀ s, s < gN v → 1 ≤ c s ∧ c s ≤ 9) : wfG (cG v c) := ⟨hv.1, hv.2.1, fun s hs => by
    obtain ⟨a1, a2, a3, -, -⟩ := hv.2.2 s hs
    obtain ⟨b1, b2⟩ := hc s hs
    exact ⟨a1, a2, a3, b1, b2⟩⟩
theorem wf_cg {v : Gr} (hv : wfG v) (x : Int64) : wfG (cG v (dcF x)) := wf_cgc hv (fun s _ => ⟨dc_1 x s, dc_2 x s⟩)
theorem inP_cg {v : Gr} (hP : inP v) (c : Nat → Nat) : inP (cG v c) := hP
theorem prB_cg {v : Gr} {x : Int64} {s : Nat} (hs : s < gN v) : prB (cG v (dcF x)) (blN x (gN v)) s = lcP x s := by
  have h1 := blN_bit x (gN v) s hs
  unfold prB lcP lcV
  rw [cg_C]
  unfold dcF
  by_cases c : lcr (lcN x (s + 1)) / 16 % 8 = 0
  · rw [if_pos (h1.mpr c), if_pos c]
  · rw [if_neg (fun q => c (h1.mp q)), if_neg c]
theorem cg_P (v : Gr) (c : Nat → Nat) : gP (cG v c) = gP v := rfl
theorem svD_M {v : Gr} {A : Pa} (hv : wfG v) (hA : wfP A) (hP : inP v) (x : Int64) : svD v A x = lpO v A (lcP x) (gP v) := by
  have h1 := svP_lpO (wf_cg hv x) hA (inP_cg hP (dcF x)) (blN x (gN v))
  have h2 := lpO_c (v := v) (w := cG v (dcF x)) (A := A) (pr := lcP x) (pr' := prB (cG v (dcF x)) (blN x (gN v))) (cg_P v (dcF x)) (fun q p => bR_cg (fun s hs => prB_cg hs)) (gP v)
  exact ((svD_e v A x).symm.trans h1).trans (by rw [cg_P]; exact h2)
theorem smC_M {v : Gr} {A : Pa} (hv : wfG v) (hA : wfP A) (hP : inP v) (seed : Int64) : ∀ d, smC v A seed d = smM v A seed d
  | 0 => rfl
  | d + 1 => by
    unfold smC smM
    rw [smC_M hv hA hP seed d, svD_M hv hA hP]
theorem eq_simulate (h : vG (zX z)) (seed : Int64) (d : Nat) : an_simulate z seed d = am_simulate z seed d := by
  unfold an_simulate am_simulate
  rw [smC_M h.1 h.2.1 h.2.2.1]
end
