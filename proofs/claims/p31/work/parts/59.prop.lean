/-! WHAT THE PROPERTY ASKS of the pure state: steps differ, what is undone is as before, best paths' goings, counts, sets -/
/-- no two steps are the same -/
def uqG (v : Gr) : Prop := ∀ s t, s < gN v → t < gN v → gF v s = gF v t → gK v s = gK v t → gT v s = gT v t → s = t
def zU (z : Zs) : Prop := uqG (zG z) ∧ (∀ j, j < zC z → uqG (zH z j).1) ∧ ∀ s, s < 2 → zF z s = true → uqG (zK z s).1
theorem zU.push {z : Zs} (h : zU z) : zU (zPush z) := by
  obtain ⟨h1, h2, h3⟩ := h
  refine ⟨h1, fun j hj => ?_, h3⟩
  have hj : j < min (zC z + 1) 14 := hj
  show uqG (if zC z < 14 then (if j = zC z then zX z else zH z j) else (if j = 13 then zX z else zH z (j + 1))).1
  by_cases c : zC z < 14
  · rw [if_pos c]
    by_cases e : j = zC z
    · rw [if_pos e]; exact h1
    · rw [if_neg e]; exact h2 j (by omega)
  · rw [if_neg c]
    by_cases e : j = 13
    · rw [if_pos e]; exact h1
    · rw [if_neg e]; exact h2 (j + 1) (by omega)
theorem zU.set {z : Zs} {v : Gr} (h : zU z) (hv : uqG v) : zU (zSet z v) := ⟨hv, h.2⟩
theorem gIxF_no {v : Gr} {p k q : Nat} : ∀ (f s : Nat), gIxF v p k q f s = none → ∀ t, s ≤ t → t < s + f → ¬ (gF v t = p ∧ gK v t = k ∧ gT v t = q)
  | 0, s, _, t, h1, h2 => absurd h2 (by omega)
  | f + 1, s, h, t, h1, h2 => by
    unfold gIxF at h
    by_cases c : gF v s = p ∧ gK v s = k ∧ gT v s = q
    · rw [if_pos c] at h; cases h
    · rw [if_neg c] at h
      by_cases e : t = s
      · rw [e]; exact c
      · exact gIxF_no f (s + 1) h t (by omega) (by omega)
theorem gIx_no {v : Gr} {p k q : Nat} (h : gIx v p k q = none) (t : Nat) (ht : t < gN v) : ¬ (gF v t = p ∧ gK v t = k ∧ gT v t = q) := gIxF_no _ 0 h t (Nat.zero_le _) (by omega)
theorem gIxF_none {v : Gr} {p k q : Nat} : ∀ (f s : Nat), (∀ t, s ≤ t → t < s + f → ¬ (gF v t = p ∧ gK v t = k ∧ gT v t = q)) → gIxF v p k q f s = none
  | 0, s, _ => rfl
  | f + 1, s, h => by
    unfold gIxF
    rw [if_neg (h s (Nat.le_refl _) (by omega))]
    exact gIxF_none f (s + 1) (fun t h1 h2 => h t (by omega) (by omega))
theorem gIx_none {v : Gr} {p k q : Nat} (h : ∀ t, t < gN v → ¬ (gF v t = p ∧ gK v t = k ∧ gT v t = q)) : gIx v p k q = none := gIxF_none _ 0 (fun t _ h2 => h t (by omega))
theorem uq_put {v : Gr} (h : uqG v) {p k q c : Nat} (hn : gIx v p k q = none) : uqG (gPut v p k q c) := by
  intro s t hs ht e1 e2 e3
  have hs : s < gN v + 1 := hs
  have ht : t < gN v + 1 := ht
  have e1 : (if s = gN v then p else gF v s) = (if t = gN v then p else gF v t) := e1
  have e2 : (if s = gN v then k else gK v s) = (if t = gN v then k else gK v t) := e2
  have e3 : (if s = gN v then q else gT v s) = (if t = gN v then q else gT v t) := e3
  by_cases a : s = gN v <;> by_cases b : t = gN v
  · rw [a, b]
  · rw [if_pos a, if_neg b] at e1 e2 e3
    exact absurd ⟨e1.symm, e2.symm, e3.symm⟩ (gIx_no hn t (by omega))
  · rw [if_neg a, if_pos b] at e1 e2 e3
    exact absurd ⟨e1, e2, e3⟩ (gIx_no hn s (by omega))
  · rw [if_neg a, if_neg b] at e1 e2 e3
    exact h s t (by omega) (by omega) e1 e2 e3
theorem uq_drop {v : Gr} (h : uqG v) (i : Nat) : uqG (gDrop v i) := by
  intro s t hs ht e1 e2 e3
  have hs : s < gN v - 1 := hs
  have ht : t < gN v - 1 := ht
  have e1 : (if i ≤ s then gF v (s + 1) else gF v s) = (if i ≤ t then gF v (t + 1) else gF v t) := e1
  have e2 : (if i ≤ s then gK v (s + 1) else gK v s) = (if i ≤ t then gK v (t + 1) else gK v t) := e2
  have e3 : (if i ≤ s then gT v (s + 1) else gT v s) = (if i ≤ t then gT v (t + 1) else gT v t) := e3
  by_cases a : i ≤ s <;> by_cases b : i ≤ t
  · rw [if_pos a, if_pos b] at e1 e2 e3
    have := h _ _ (by omega) (by omega) e1 e2 e3
    omega
  · rw [if_pos a, if_neg b] at e1 e2 e3
    have := h _ _ (by omega) (by omega) e1 e2 e3
    omega
  · rw [if_neg a, if_pos b] at e1 e2 e3
    have := h _ _ (by omega) (by omega) e1 e2 e3
    omega
  · rw [if_neg a, if_neg b] at e1 e2 e3
    exact h _ _ (by omega) (by omega) e1 e2 e3
theorem uq_rev {v : Gr} (h : uqG v) {i : Nat} (hi : i < gN v) (hn : gIx v (gT v i) (gK v i) (gF v i) = none) : uqG (gRev v i) := by
  intro s t hs ht e1 e2 e3
  have hs : s < gN v := hs
  have ht : t < gN v := ht
  have e1 : (if s = i then gT v i else gF v s) = (if t = i then gT v i else gF v t) := e1
  have e2 : gK v s = gK v t := e2
  have e3 : (if s = i then gF v i else gT v s) = (if t = i then gF v i else gT v t) := e3
  by_cases a : s = i <;> by_cases b : t = i
  · rw [a, b]
  · rw [if_pos a, if_neg b] at e1 e3
    rw [a] at e2
    exact absurd ⟨e1.symm, e2.symm, e3.symm⟩ (gIx_no hn t ht)
  · rw [if_neg a, if_pos b] at e1 e3
    rw [b] at e2
    exact absurd ⟨e1, e2, e3⟩ (gIx_no hn s hs)
  · rw [if_neg a, if_neg b] at e1 e3
    exact h s t hs ht e1 e2 e3
theorem gSw_inj {k l x y : Nat} (e : gSw k l x = gSw k l y) : x = y := by
  unfold gSw at e
  (repeat' split at e) <;> omega
theorem uq_swp {v : Gr} (h : uqG v) (k l : Nat) : uqG (gSwp v k l) := fun s t hs ht e1 e2 e3 => h s t hs ht e1 (gSw_inj e2) e3
def zJ (z : Zs) : Prop := zI z ∧ zU z
theorem zj_append {z : Zs} (h : zJ z) (c : Int32) : zJ (nx_append z c) := ⟨h.1.txt _, h.2⟩
theorem zj_txt {z : Zs} (h : zJ z) (t : Nat × (Nat → Nat)) : zJ (t, z.2) := ⟨h.1.txt _, h.2⟩
theorem zj_addPerson {z : Zs} (h : zJ z) : zJ (nx_addPerson z) := ⟨zi_addPerson h.1, h.2.push.set h.2.1⟩
theorem zj_addStep {z : Zs} (h : zJ z) {p k q c : Int32} (hf : gWhy (zG z) p k q c = 0) : zJ (nx_addStep z p.toInt.toNat k.toInt.toNat q.toInt.toNat c.toInt.toNat) := by
  refine ⟨zi_addStep h.1 hf, h.2.push.set (uq_put h.2.1 ?_)⟩
  obtain ⟨-, -, -, -, k5, -⟩ := gWhy_0 hf
  exact k5
theorem zj_removeStep {z : Zs} (h : zJ z) {s : Int32} (hf : fl_one (gN (zG z)) s = 0) : zJ (nx_removeStep z s.toInt.toNat) := ⟨zi_removeStep h.1 hf, h.2.push.set (uq_drop h.2.1 _)⟩
theorem zj_setCost {z : Zs} (h : zJ z) (s c : Nat) : zJ (nx_setCost z s c) := ⟨zi_setCost h.1 s c, h.2.push.set h.2.1⟩
theorem zj_turn {z : Zs} (h : zJ z) {s : Int32} (hf : fl_turn z s = 0) : zJ (nx_turn z s.toInt.toNat) := ⟨zi_turn h.1 hf, h.2.push.set (uq_rev h.2.1 (tn_lt (fl_turn_0 hf).1) (fl_turn_0 hf).2)⟩
theorem zj_exchange {z : Zs} (h : zJ z) (k l : Nat) : zJ (nx_exchange z k l) := ⟨zi_exchange h.1 k l, h.2.push.set (uq_swp h.2.1 k l)⟩
theorem zj_take {z : Zs} (h : zJ z) : zJ (nx_take z) := ⟨zi_take h.1, ⟨h.2.1, h.2.push.2⟩⟩
theorem zj_undo {z : Zs} (h : zJ z) (hf : fl_undo z = 0) : zJ (nx_undo z) := by
  have hc : 0 < zC z := by
    unfold fl_undo at hf
    split at hf
    · assumption
    · cases hf
  exact ⟨zi_undo h.1 hf, h.2.2.1 (zC z - 1) (by omega), fun j hj => h.2.2.1 j (by have hj : j < zC z - 1 := hj; omega), h.2.2.2⟩
theorem zj_save {z : Zs} (h : zJ z) (s : Nat) : zJ (nx_save z s) := by
  refine ⟨zi_save h.1 s, h.2.1, h.2.2.1, fun j hj hf => ?_⟩
  have hf : (if j = s then true else zF z j) = true := hf
  show uqG (if j = s then zX z else zK z j).1
  by_cases e : j = s
  · rw [if_pos e]; exact h.2.1
  · rw [if_neg e] at hf ⊢; exact h.2.2.2 j hj hf
theorem zj_restore {z : Zs} (h : zJ z) {s : Int32} (hf : fl_restore z s = 0) : zJ (nx_restore z s.toInt.toNat) := by
  refine ⟨zi_restore h.1 hf, ?_⟩
  unfold fl_restore at hf
  split at hf
  · cases hf
  · next c1 =>
    split at hf
    · cases hf
    · next c2 =>
      exact ⟨h.2.2.2 _ (lt2 (Classical.not_not.mp c1)) (Classical.not_not.mp c2), fun j hj => absurd hj (Nat.not_lt_zero _), h.2.2.2⟩
/-! undone -/
theorem un_1 (z : Zs) (v : Gr) : fl_undo (zSet (zPush z) v) = 0 := by
  unfold fl_undo
  exact if_pos (by show 0 < min (zC z + 1) 14; omega)
theorem un_2 (z : Zs) (v w : Gr) : fl_undo (nx_undo (zSet (zPush (zSet (zPush z) v)) w)) = 0 := by
  unfold fl_undo
  exact if_pos (by show 0 < min (min (zC z + 1) 14 + 1) 14 - 1; omega)
theorem un_X (z : Zs) (v w : Gr) : zX (nx_undo (nx_undo (zSet (zPush (zSet (zPush z) v)) w))) = zX z := by
  show (if min (zC z + 1) 14 < 14 then (if min (min (zC z + 1) 14 + 1) 14 - 1 - 1 = min (zC z + 1) 14 then (v, (zX z).2) else (if zC z < 14 then (if min (min (zC z + 1) 14 + 1) 14 - 1 - 1 = zC z then zX z else zH z (min (min (zC z + 1) 14 + 1) 14 - 1 - 1)) else (if min (min (zC z + 1) 14 + 1) 14 - 1 - 1 = 13 then zX z else zH z (min (min (zC z + 1) 14 + 1) 14 - 1 - 1 + 1))))
    else (if min (min (zC z + 1) 14 + 1) 14 - 1 - 1 = 13 then (v, (zX z).2) else (if zC z < 14 then (if min (min (zC z + 1) 14 + 1) 14 - 1 - 1 + 1 = zC z then zX z else zH z (min (min (zC z + 1) 14 + 1) 14 - 1 - 1 + 1)) else (if min (min (zC z + 1) 14 + 1) 14 - 1 - 1 + 1 = 13 then zX z else zH z (min (min (zC z + 1) 14 + 1) 14 - 1 - 1 + 1 + 1))))) = zX z
  by_cases c : zC z < 13
  · rw [if_pos (by omega), if_neg (by omega), if_pos (by omega), if_pos (by omega)]
  · rw [if_neg (by omega), if_neg (by omega)]
    by_cases d : zC z < 14
    · rw [if_pos d, if_pos (by omega)]
    · rw [if_neg d, if_pos (by omega)]
theorem zj_un {z : Zs} {v w : Gr} (h : zJ (zSet (zPush (zSet (zPush z) v)) w)) : zJ (nx_undo (nx_undo (zSet (zPush (zSet (zPush z) v)) w))) := zj_undo (zj_undo h (un_1 _ _)) (un_2 _ _ _)
/-! turned twice, exchanged twice -/
theorem rv_2 {v : Gr} (h : uqG v) {i : Nat} (hi : i < gN v) (hn : gIx v (gT v i) (gK v i) (gF v i) = none) : gIx (gRev v i) (gT (gRev v i) i) (gK (gRev v i) i) (gF (gRev v i) i) = none := by
  refine gIx_none (fun t ht q => ?_)
  have ht : t < gN v := ht
  obtain ⟨q1, q2, q3⟩ := q
  have q1 : (if t = i then gT v i else gF v t) = (if i = i then gF v i else gT v i) := q1
  have q2 : gK v t = gK v i := q2
  have q3 : (if t = i then gF v i else gT v t) = (if i = i then gT v i else gF v i) := q3
  rw [if_pos rfl] at q1 q3
  by_cases e : t = i
  · rw [if_pos e] at q1 q3
    exact gIx_no hn i hi ⟨q3, rfl, q1⟩
  · rw [if_neg e] at q1 q3
    exact e (h t i ht hi q1 q2 q3)
theorem ch_2 (g : Nat → Nat) (k l : Nat) : ∀ n, gCh (fun s => gSw k l (g s)) l k n = gCh g k l n
  | 0 => rfl
  | n + 1 => by
    unfold gCh
    rw [ch_2 g k l n]
    congr 1
    have e : (l ≠ k ∧ (gSw k l (g n) = l ∨ gSw k l (g n) = k)) ↔ (k ≠ l ∧ (g n = k ∨ g n = l)) := by
      unfold gSw
      (repeat' split) <;> omega
    by_cases c : k ≠ l ∧ (g n = k ∨ g n = l)
    · rw [if_pos c, if_pos (e.mpr c)]
    · rw [if_neg c, if_neg (fun q => c (e.mp q))]
/-! the best path's goings -/
theorem lvB_bt (rs : Nat → Nat) (a se k lf j : Nat) : ∀ n, ((lvB rs a se k lf n).testBit j = true ↔ j < n ∧ se.testBit j = true ∧ rs (a * 21 + j) + k = lf)
  | 0 => by
    unfold lvB
    rw [Nat.zero_testBit]
    constructor
    · intro q; cases q
    · intro q; exact absurd q.1 (Nat.not_lt_zero _)
  | n + 1 => by
    unfold lvB
    rw [Nat.testBit_or, Bool.or_eq_true, lvB_bt rs a se k lf j n]
    by_cases c : se.testBit n = true ∧ rs (a * 21 + n) + k = lf
    · rw [if_pos c, Nat.testBit_two_pow]
      constructor
      · rintro (q | q)
        · exact ⟨by omega, q.2⟩
        · have e : n = j := of_decide_eq_true q
          subst e
          exact ⟨by omega, c⟩
      · rintro ⟨q1, q2⟩
        by_cases e : n = j
        · exact Or.inr (decide_eq_true e)
        · exact Or.inl ⟨by omega, q2⟩
    · rw [if_neg c, Nat.zero_testBit]
      constructor
      · rintro (q | q)
        · exact ⟨by omega, q.2⟩
        · cases q
      · rintro ⟨q1, q2⟩
        by_cases e : n = j
        · subst e; exact absurd q2 c
        · exact Or.inl ⟨by omega, q2⟩
theorem avF_val {v : Gr} {A : Pa} {rs : Nat → Nat} {x : Wk} : ∀ (f s : Nat) (w : Nat × Wk), avF v A rs x f s = some w → ∃ t d, s ≤ t ∧ t < s + f ∧ d < 2 ∧ w.1 = 10 * t + d ∧ gw v A rs x t d = some w.2
  | 0, _, _, h => by cases h
  | f + 1, s, w, h => by
    unfold avF at h
    cases e0 : gw v A rs x s 0 with
    | some y =>
      rw [e0] at h
      cases h
      exact ⟨s, 0, Nat.le_refl _, by omega, by decide, rfl, e0⟩
    | none =>
      rw [e0] at h
      cases e1 : gw v A rs x s 1 with
      | some y =>
        rw [e1] at h
        cases h
        exact ⟨s, 1, Nat.le_refl _, by omega, by decide, rfl, e1⟩
      | none =>
        rw [e1] at h
        obtain ⟨t, d, h1, h2, h3⟩ := avF_val f (s + 1) w h
        exact ⟨t, d, by omega, by omega, h3⟩
theorem avF_none {v : Gr} {A : Pa} {rs : Nat → Nat} {x : Wk} : ∀ (f s : Nat), avF v A rs x f s = none → ∀ t d, s ≤ t → t < s + f → d < 2 → gw v A rs x t d = none
  | 0, s, _, t, d, h1, h2, _ => absurd h2 (by omega)
  | f + 1, s, h, t, d, h1, h2, h3 => by
    unfold avF at h
    cases e0 : gw v A rs x s 0 with
    | some y => rw [e0] at h; cases h
    | none =>
      rw [e0] at h
      cases e1 : gw v A rs x s 1 with
      | some y => rw [e1] at h; cases h
      | none =>
        rw [e1] at h
        by_cases e : t = s
        · rw [e]
          rcases (show d = 0 ∨ d = 1 by omega) with rfl | rfl
          · exact e0
          · exact e1
        · exact avF_none f (s + 1) h t d (by omega) (by omega) h3
/-- where the walk along a best path stands: c and n are left -/
def wkG (v : Gr) (A : Pa) (q : Nat) (x : Wk) (c n : Nat) : Prop := x.1 < gP v ∧ x.2.2 = 256 * c + n ∧ n ≤ 167 ∧ c ≤ 1503 ∧ ∃ i, i < 21 ∧ x.2.1.testBit i = true ∧ bR v A (gC v) (tgA A q) x.1 i = some (c, n)
def rsI (v : Gr) (A : Pa) (q : Nat) (rs : Nat → Nat) : Prop := ∀ a i, a < 8 → i < 21 → rs (a * 21 + i) = enc 256 387072 (bR v A (gC v) (tgA A q) a i)
theorem gC_9 {v : Gr} (hv : wfG v) : ∀ s, s < gN v → gC v s ≤ 9 := fun s hs => (hv.2.2 s hs).2.2.2.2
theorem wkG.go {v : Gr} {A : Pa} {q : Nat} (hv : wfG v) (hA : wfP A) (hP : inP v) {rs : Nat → Nat} (hr : rsI v A q rs) {x : Wk} {c n : Nat} (h : wkG v A q x c (n + 1)) :
    ∃ s d y c', av v A rs x = some (10 * s + d, y) ∧ s < gN v ∧ d < 2 ∧ (if d = 0 then gF v s else gT v s) = x.1 ∧ (if d = 0 then gT v s else gF v s) = y.1 ∧ c = c' + gC v s ∧ wkG v A q y c' n := by
  obtain ⟨h1, h2, h3, h4, i, h5, h6, h7⟩ := h
  have h8 : gP v ≤ 8 := hv.1
  have hex : ∃ w, av v A rs x = some w := by
    cases e : av v A rs x with
    | some w => exact ⟨w, rfl⟩
    | none =>
      exfalso
      obtain ⟨b, j, c1, c2, e1, ⟨s, e2, e3, e4, e5⟩, e6⟩ := bR_tail h7
      obtain ⟨q1, q2, q3, q4⟩ := eR_b hv hA ⟨s, e2, e3, e4, e5⟩
      have hb : rs (b * 21 + j) = 256 * c2 + n := by rw [hr b j q2 q3, e6]; rfl
      have key : ∀ d, d < 2 → (if d = 0 then gF v s else gT v s) = x.1 → (if d = 0 then gT v s else gF v s) = b → (pA A i &&& pEn A d (gK v s)).testBit j = true → False := fun d hd k1 k2 k3 => by
        have k4 := avF_none (gN v) 0 e s d (Nat.zero_le _) (by omega) hd
        unfold gw at k4
        rw [if_pos k1, k2] at k4
        have k5 : (lvB rs b (pFol A x.2.1 &&& pEn A d (gK v s)) (256 * gC v s + 1) x.2.2 21).testBit j = true := (lvB_bt _ _ _ _ _ _ 21).mpr ⟨q3, (fol_bit A x.2.1 _ j).mpr ⟨i, h5, h6, k3⟩, by rw [hb, h2, e1, e3]; omega⟩
        by_cases z : lvB rs b (pFol A x.2.1 &&& pEn A d (gK v s)) (256 * gC v s + 1) x.2.2 21 = 0
        · rw [z, Nat.zero_testBit] at k5; cases k5
        · rw [if_neg z] at k4; cases k4
      rcases e5 with ⟨k1, k2, k3⟩ | ⟨k1, k2, k3⟩
      · exact key 0 (by decide) k1 k2 k3
      · exact key 1 (by decide) k1 k2 k3
  obtain ⟨w, hw⟩ := hex
  obtain ⟨s, d, -, e2, e3, e4, e5⟩ := avF_val (gN v) 0 w hw
  have hs : s < gN v := by omega
  have hc9 := gC_9 hv s hs
  unfold gw at e5
  by_cases k1 : (if d = 0 then gF v s else gT v s) = x.1
  · rw [if_pos k1] at e5
    have hend : (if d = 0 then gT v s else gF v s) < gP v := by
      have := hP s hs
      split <;> omega
    generalize hb : (if d = 0 then gT v s else gF v s) = b at e5 hend
    by_cases z : lvB rs b (pFol A x.2.1 &&& pEn A d (gK v s)) (256 * gC v s + 1) x.2.2 21 = 0
    · rw [if_pos z] at e5; cases e5
    · rw [if_neg z] at e5
      have e5 := Option.some.inj e5
      have hj : ∃ j, (lvB rs b (pFol A x.2.1 &&& pEn A d (gK v s)) (256 * gC v s + 1) x.2.2 21).testBit j = true := by
        refine Classical.byContradiction (fun no => z (zero_of_bits (fun t ht => no ⟨t, ht⟩)))
      obtain ⟨j, hj⟩ := hj
      obtain ⟨j1, j2, j3⟩ := (lvB_bt _ _ _ _ _ _ 21).mp hj
      rw [hr b j (by omega) j1, h2] at j3
      cases eb : bR v A (gC v) (tgA A q) b j with
      | none =>
        rw [eb] at j3
        have j3 : 387072 + (256 * gC v s + 1) = 256 * c + (n + 1) := j3
        omega
      | some y =>
        rw [eb] at j3
        have j3 : 256 * y.1 + y.2 + (256 * gC v s + 1) = 256 * c + (n + 1) := j3
        have y2 := bR_n hv hA (show b < 8 by omega) j1 eb
        have en : y.2 = n := by omega
        have ec : c = y.1 + gC v s := by omega
        refine ⟨s, d, w.2, y.1, ?_, hs, e3, k1, ?_, ec, ?_⟩
        · rw [hw, ← e4]
        · rw [← e5]; exact hb
        · rw [← e5]
          refine ⟨hend, ?_, by omega, by omega, j, j1, hj, ?_⟩
          · show x.2.2 - (256 * gC v s + 1) = 256 * y.1 + n
            rw [h2]; omega
          · show bR v A (gC v) (tgA A q) b j = some (y.1, n)
            rw [eb, ← en]
  · rw [if_neg k1] at e5; cases e5
theorem wkG.all {v : Gr} {A : Pa} {q : Nat} (hv : wfG v) (hA : wfP A) (hP : inP v) {rs : Nat → Nat} (hr : rsI v A q rs) {x : Wk} {c n : Nat} (h : wkG v A q x c n) : ∀ k, k ≤ n → ∃ c', wkG v A q (gaI v A rs x k).2 c' (n - k)
  | 0, _ => ⟨c, h⟩
  | k + 1, hk => by
    obtain ⟨c1, h1⟩ := wkG.all hv hA hP hr h k (by omega)
    rw [show n - k = n - (k + 1) + 1 by omega] at h1
    obtain ⟨s, d, y, c2, e1, e2, e3, e4, e5, e6, e7⟩ := h1.go hv hA hP hr
    refine ⟨c2, ?_⟩
    rw [gaI_s, e1]
    exact e7
theorem wkG.c {v : Gr} {A : Pa} {q : Nat} {x : Wk} {c n : Nat} (h : wkG v A q x c n) : x.2.2 / 256 = c := by
  obtain ⟨-, h2, h3, -⟩ := h
  omega
/-- the persons and the costs along the best path, and its goings -/
theorem pth {v : Gr} {A : Pa} {q p c n : Nat} (hv : wfG v) (hA : wfP A) (hP : inP v) {rs : Nat → Nat} (hr : rsI v A q rs) (hp : p < gP v) (hb : bR v A (gC v) (tgA A q) p 0 = some (c, n)) :
    ∃ (w e : Nat → Nat), w 0 = p ∧ w n = q ∧ e 0 = 0 ∧ e n = c ∧ ∀ k, k < n → ∃ s d, gAt v A rs p k = some (10 * s + d) ∧ s < gN v ∧ d < 2 ∧ (if d = 0 then gF v s else gT v s) = w k ∧ (if d = 0 then gT v s else gF v s) = w (k + 1) ∧ e (k + 1) = e k + gC v s ∧ e (k + 1) ≤ c := by
  have h8 : gP v ≤ 8 := hv.1
  have hn := bR_n hv hA (show p < 8 by omega) (by decide : 0 < 21) hb
  have hc := bR_c hv hA (gC_9 hv) (show p < 8 by omega) (by decide : 0 < 21) hb
  have hn : n ≤ 167 := hn
  have hc : c ≤ 1503 := hc
  have hrp : rs (p * 21) = 256 * c + n := by
    have := hr p 0 (by omega) (by decide)
    rw [Nat.add_zero, hb] at this
    exact this
  have h0 : wkG v A q (p, 1, rs (p * 21)) c n := ⟨hp, hrp, hn, hc, 0, by decide, by show Nat.testBit 1 0 = true; decide, hb⟩
  have hgf : gfm rs p = some n := by
    unfold gfm
    rw [hrp, if_neg (by omega), show (256 * c + n) % 256 = n by omega]
  have hall := fun k hk => wkG.all hv hA hP hr h0 k hk
  refine ⟨fun k => (gaI v A rs (p, 1, rs (p * 21)) k).2.1, fun k => c - (gaI v A rs (p, 1, rs (p * 21)) k).2.2.2 / 256, rfl, ?_, ?_, ?_, fun k hk => ?_⟩
  · obtain ⟨c', h1⟩ := hall n (Nat.le_refl _)
    rw [Nat.sub_self] at h1
    obtain ⟨-, -, -, -, i, -, -, h2⟩ := h1
    exact (bR_some h2).1.2.1
  · show c - rs (p * 21) / 256 = 0
    rw [hrp]; omega
  · obtain ⟨c', h1⟩ := hall n (Nat.le_refl _)
    rw [Nat.sub_self] at h1
    have hc' := h1.c
    obtain ⟨-, -, -, -, i, -, -, h2⟩ := h1
    have h3 : c' = 0 := (bR_some h2).1.1
    show c - (gaI v A rs (p, 1, rs (p * 21)) n).2.2.2 / 256 = c
    rw [hc', h3]; rfl
  · obtain ⟨c1, h1⟩ := hall k (by omega)
    have hc1 := h1.c
    rw [show n - k = n - (k + 1) + 1 by omega] at h1
    obtain ⟨s, d, y, c2, e1, e2, e3, e4, e5, e6, e7⟩ := h1.go hv hA hP hr
    have hs : gaI v A rs (p, 1, rs (p * 21)) (k + 1) = (some (10 * s + d), y) := by rw [gaI_s, e1]
    have hc2 := e7.c
    obtain ⟨-, -, -, h4, -⟩ := h1
    -- c1 ≤ c
    have hle : ∀ m, m ≤ n → (gaI v A rs (p, 1, rs (p * 21)) m).2.2.2 / 256 ≤ c := by
      intro m
      induction m with
      | zero => intro _; show rs (p * 21) / 256 ≤ c; rw [hrp]; omega
      | succ m ih =>
        intro hm
        have ih := ih (by omega)
        obtain ⟨d1, g1⟩ := hall m (by omega)
        have gd := g1.c
        rw [show n - m = n - (m + 1) + 1 by omega] at g1
        obtain ⟨s', d', y', d2, f1, f2, f3, f4, f5, f6, f7⟩ := g1.go hv hA hP hr
        rw [gaI_s, f1]
        show y'.2.2 / 256 ≤ c
        rw [f7.c]; omega
    have hk1 := hle k (by omega)
    refine ⟨s, d, ?_, e2, e3, e4, ?_, ?_, ?_⟩
    · unfold gAt
      rw [hgf]
      show (if k < n then (gaI v A rs (p, 1, rs (p * 21)) (k + 1)).1 else none) = _
      rw [if_pos hk, hs]
    · show _ = (gaI v A rs (p, 1, rs (p * 21)) (k + 1)).2.1
      rw [hs]; exact e5
    · show c - (gaI v A rs (p, 1, rs (p * 21)) (k + 1)).2.2.2 / 256 = c - (gaI v A rs (p, 1, rs (p * 21)) k).2.2.2 / 256 + gC v s
      rw [hs, hc1]
      show c - y.2.2 / 256 = _
      rw [hc2]
      rw [hc1] at hk1
      omega
    · show c - (gaI v A rs (p, 1, rs (p * 21)) (k + 1)).2.2.2 / 256 ≤ c
      omega
/-! paths: more goings, more rows; a short best path is one of them -/
theorem smS_le {f g : Nat → Nat → Nat} (h : ∀ s d, f s d ≤ g s d) : ∀ n, smS f n ≤ smS g n
  | 0 => Nat.le_refl _
  | n + 1 => by
    have h1 := smS_le h n
    have h2 := h n 0
    have h3 := h n 1
    unfold smS
    omega
theorem smS_b {f : Nat → Nat → Nat} {M : Nat} (h : ∀ s d, f s d ≤ M) : ∀ n, smS f n ≤ 2 * n * M
  | 0 => Nat.zero_le _
  | n + 1 => by
    have h1 := smS_b h n
    have h2 := h n 0
    have h3 := h n 1
    unfold smS
    rw [show 2 * (n + 1) * M = 2 * n * M + M + M by rw [Nat.mul_add, Nat.add_mul]; omega]
    omega
theorem smS_get {f : Nat → Nat → Nat} {s d : Nat} (hd : d < 2) : ∀ n, s < n → f s d ≤ smS f n
  | 0, h => absurd h (Nat.not_lt_zero _)
  | n + 1, h => by
    unfold smS
    by_cases e : s = n
    · subst e
      rcases (show d = 0 ∨ d = 1 by omega) with rfl | rfl <;> omega
    · have := smS_get (f := f) (s := s) hd n (by omega)
      omega
theorem ite_le {c : Prop} [Decidable c] {x y : Nat} (h : x ≤ y) : (if c then x else 0) ≤ (if c then y else 0) := by
  split
  · exact h
  · exact Nat.le_refl _
theorem cF_up (v : Gr) (A : Pa) (q : Nat) : ∀ g here ps, cF v A q g here ps ≤ cF v A q (g + 1) here ps
  | 0, here, ps => by
    show (if here = q ∧ ¬ ps &&& pAc A = 0 then 1 else 0) ≤ (if here = q ∧ ¬ ps &&& pAc A = 0 then 1 else 0) + _
    omega
  | g + 1, here, ps => by
    show (if here = q ∧ ¬ ps &&& pAc A = 0 then 1 else 0) + smS _ _ ≤ (if here = q ∧ ¬ ps &&& pAc A = 0 then 1 else 0) + smS _ _
    exact Nat.add_le_add_left (smS_le (fun s d => ite_le (cF_up v A q g _ _)) _) _
theorem cF_b {v : Gr} (h24 : gN v ≤ 24) (A : Pa) (q : Nat) : ∀ g here ps, cF v A q g here ps ≤ 49 ^ g
  | 0, here, ps => by
    show (if here = q ∧ ¬ ps &&& pAc A = 0 then 1 else 0) ≤ 1
    split <;> omega
  | g + 1, here, ps => by
    have h1 : smS (fun s d => if (if d = 0 then gF v s else gT v s) = here ∧ ¬ pFol A ps &&& pEn A d (gK v s) = 0 then cF v A q g (if d = 0 then gT v s else gF v s) (pFol A ps &&& pEn A d (gK v s)) else 0) (gN v) ≤ 2 * gN v * 49 ^ g := smS_b (fun s d => by
      show (if (if d = 0 then gF v s else gT v s) = here ∧ ¬ pFol A ps &&& pEn A d (gK v s) = 0 then cF v A q g (if d = 0 then gT v s else gF v s) (pFol A ps &&& pEn A d (gK v s)) else 0) ≤ 49 ^ g
      by_cases c : (if d = 0 then gF v s else gT v s) = here ∧ ¬ pFol A ps &&& pEn A d (gK v s) = 0
      · rw [if_pos c]; exact cF_b h24 A q g _ _
      · rw [if_neg c]; exact Nat.zero_le _) _
    have h2 : 2 * gN v * 49 ^ g ≤ 48 * 49 ^ g := Nat.mul_le_mul_right _ (by omega)
    have h3 : 0 < 49 ^ g := Nat.pow_pos (by decide)
    have h4 : 49 ^ (g + 1) = 48 * 49 ^ g + 49 ^ g := by rw [Nat.pow_succ]; omega
    show (if here = q ∧ ¬ ps &&& pAc A = 0 then 1 else 0) + smS _ _ ≤ 49 ^ (g + 1)
    have h5 : (if here = q ∧ ¬ ps &&& pAc A = 0 then 1 else 0) ≤ 1 := by split <;> omega
    omega
theorem cF_pos {v : Gr} {A : Pa} {q : Nat} (hv : wfG v) (hA : wfP A) : ∀ (n c a i ps g : Nat), fR v A (gC v) (tgA A q) n c a i → i < 21 → ps.testBit i = true → n ≤ g → 0 < cF v A q g a ps
  | 0, c, a, i, ps, g, h, h1, h2, h3 => by
    obtain ⟨-, e1, e2⟩ := h
    have hc : a = q ∧ ¬ ps &&& pAc A = 0 := ⟨e1, and_ne.mpr ⟨i, h2, e2⟩⟩
    cases g with
    | zero =>
      show 0 < (if a = q ∧ ¬ ps &&& pAc A = 0 then 1 else 0)
      rw [if_pos hc]; decide
    | succ g =>
      show 0 < (if a = q ∧ ¬ ps &&& pAc A = 0 then 1 else 0) + _
      rw [if_pos hc]; omega
  | n + 1, c, a, i, ps, g, h, h1, h2, h3 => by
    obtain ⟨b, j, c1, c2, e1, ⟨s, e2, e3, e4, e5⟩, e6⟩ := h
    obtain ⟨q1, q2, q3, q4⟩ := eR_b hv hA ⟨s, e2, e3, e4, e5⟩
    obtain ⟨g, rfl⟩ : ∃ g', g = g' + 1 := ⟨g - 1, by omega⟩
    have key : ∀ d, d < 2 → (if d = 0 then gF v s else gT v s) = a → (if d = 0 then gT v s else gF v s) = b → (pA A i &&& pEn A d (gK v s)).testBit j = true → 0 < cF v A q (g + 1) a ps := fun d hd k1 k2 k3 => by
      have hb := (fol_bit A ps (pEn A d (gK v s)) j).mpr ⟨i, h1, h2, k3⟩
      have hne : ¬ pFol A ps &&& pEn A d (gK v s) = 0 := fun z => by rw [z, Nat.zero_testBit] at hb; cases hb
      have hp := cF_pos hv hA n c2 b j (pFol A ps &&& pEn A d (gK v s)) g e6 q3 hb (by omega)
      have hg := smS_get (f := fun s d => if (if d = 0 then gF v s else gT v s) = a ∧ ¬ pFol A ps &&& pEn A d (gK v s) = 0 then cF v A q g (if d = 0 then gT v s else gF v s) (pFol A ps &&& pEn A d (gK v s)) else 0) hd (gN v) e2
      have hg : (if (if d = 0 then gF v s else gT v s) = a ∧ ¬ pFol A ps &&& pEn A d (gK v s) = 0 then cF v A q g (if d = 0 then gT v s else gF v s) (pFol A ps &&& pEn A d (gK v s)) else 0) ≤ _ := hg
      rw [if_pos ⟨k1, hne⟩, k2] at hg
      show 0 < (if a = q ∧ ¬ ps &&& pAc A = 0 then 1 else 0) + smS _ _
      omega
    rcases e5 with ⟨k1, k2, k3⟩ | ⟨k1, k2, k3⟩
    · exact key 0 (by decide) k1 k2 k3
    · exact key 1 (by decide) k1 k2 k3
/-! sets of people -/
theorem pfB_bt (cs : Nat → Option Nat) (b : Nat) : ∀ n, ((pfB cs n).testBit b = true ↔ b < n ∧ ¬ cs b = none)
  | 0 => by
    unfold pfB
    rw [Nat.zero_testBit]
    constructor
    · intro q; cases q
    · intro q; exact absurd q.1 (Nat.not_lt_zero _)
  | n + 1 => by
    unfold pfB
    rw [Nat.testBit_or, Bool.or_eq_true, pfB_bt cs b n]
    by_cases c : cs n = none
    · rw [if_pos c, Nat.zero_testBit]
      constructor
      · rintro (q | q)
        · exact ⟨by omega, q.2⟩
        · cases q
      · rintro ⟨q1, q2⟩
        by_cases e : n = b
        · subst e; exact absurd c q2
        · exact Or.inl ⟨by omega, q2⟩
    · rw [if_neg c, Nat.testBit_two_pow]
      constructor
      · rintro (q | q)
        · exact ⟨by omega, q.2⟩
        · have e : n = b := of_decide_eq_true q
          subst e
          exact ⟨by omega, c⟩
      · rintro ⟨q1, q2⟩
        by_cases e : n = b
        · exact Or.inr (decide_eq_true e)
        · exact Or.inl ⟨by omega, q2⟩
theorem ptB_f (v : Gr) (A : Pa) (r : Nat) : ∀ n, ptB v A r n = pfB (fun p => sCs v A p (some r) 0 1512 r) n
  | 0 => rfl
  | n + 1 => by
    unfold ptB pfB
    rw [ptB_f v A r n]
theorem pf_lt {n x : Nat} (hx : x < 2 ^ n) (h : n ≤ 8) : x < 256 := Nat.lt_of_lt_of_le hx (Nat.pow_le_pow_right (by decide) h : _ ≤ 2 ^ 8)
/-! pairs and the greatest cost -/
noncomputable def fP (v : Gr) (A : Pa) (p q : Nat) : Nat × Option Nat := pvO (bR v A (gC v) (tgA A q) p 0)
/-- what has been counted ahead of the pair (a, b) -/
noncomputable def xP (v : Gr) (A : Pa) (a b : Nat) : Nat × Option Nat := opP (sP (fun p => sP (fP v A p) (gP v)) a) (sP (fP v A a) b)
theorem xP_b (v : Gr) (A : Pa) (a b : Nat) : xP v A a (b + 1) = opP (xP v A a b) (fP v A a b) := by
  unfold xP
  rw [opP_a]
  rfl
theorem xP_row (v : Gr) (A : Pa) (a : Nat) : xP v A a (gP v) = xP v A (a + 1) 0 := by
  show _ = opP (opP (sP (fun p => sP (fP v A p) (gP v)) a) (sP (fP v A a) (gP v))) (0, none)
  rw [opP_n]
  rfl
theorem xP_0 (v : Gr) (A : Pa) : xP v A 0 0 = (0, none) := rfl
theorem xP_S {v : Gr} {A : Pa} (hv : wfG v) (hA : wfP A) (hP : inP v) : svP v A 0 (gP v) = xP v A (gP v) 0 := by
  rw [svP_S hv hA hP 0 (gP v) (Nat.le_refl _), prB_0]
  show _ = opP _ (0, none)
  rw [opP_n]
  rfl
theorem xP_1 (v : Gr) (A : Pa) (a b : Nat) : (xP v A a (b + 1)).1 = (xP v A a b).1 + (if bR v A (gC v) (tgA A b) a 0 = none then 0 else 1) := by
  rw [xP_b]
  show _ + (fP v A a b).1 = _
  unfold fP
  cases e : bR v A (gC v) (tgA A b) a 0 with
  | none => rw [if_pos rfl]; rfl
  | some y => rw [if_neg (fun q => nomatch q)]; rfl
theorem xP_2 (v : Gr) (A : Pa) (a b : Nat) : (xP v A a (b + 1)).2 = omx (xP v A a b).2 ((bR v A (gC v) (tgA A b) a 0).map Prod.fst) := by
  rw [xP_b]
  show omx _ (fP v A a b).2 = _
  unfold fP
  cases e : bR v A (gC v) (tgA A b) a 0 <;> rfl
theorem xP_le {v : Gr} {A : Pa} : ∀ a b, b ≤ gP v → (xP v A a b).1 ≤ gP v * a + b
  | 0, 0, _ => Nat.zero_le _
  | a + 1, 0, _ => by
    have h := xP_le (v := v) (A := A) a (gP v) (Nat.le_refl _)
    rw [xP_row] at h
    rw [Nat.mul_add, Nat.mul_one, Nat.add_zero]
    exact h
  | a, b + 1, h => by
    have h1 := xP_le (v := v) (A := A) a b (by omega)
    rw [xP_1]
    split <;> omega
theorem omx_lt9 {a b : Option Nat} {M : Nat} (ha : ∀ z, a = some z → z < M) (hb : ∀ z, b = some z → z < M) : ∀ z, omx a b = some z → z < M := by
  intro z hz
  cases a with
  | none => exact hb z hz
  | some x =>
    cases b with
    | none => exact ha z hz
    | some y =>
      have hz : some (if x < y then y else x) = some z := hz
      have hz := Option.some.inj hz
      have h1 := ha x rfl
      have h2 := hb y rfl
      rw [← hz]
      split <;> assumption
theorem xP_lt {v : Gr} {A : Pa} (hv : wfG v) (hA : wfP A) : ∀ a b, a < 8 ∨ b = 0 → a ≤ 8 → ∀ z, (xP v A a b).2 = some z → z < 2 ^ 31
  | 0, 0, _, _, z, h => by cases h
  | a + 1, 0, _, h8, z, h => by
    rw [← xP_row] at h
    exact xP_lt hv hA a (gP v) (Or.inl (by omega)) (by omega) z h
  | a, b + 1, h1, h8, z, h => by
    rw [xP_2] at h
    refine omx_lt9 (xP_lt hv hA a b (Or.inl (by omega)) h8) (fun z hz => ?_) z h
    cases e : bR v A (gC v) (tgA A b) a 0 with
    | none => rw [e] at hz; cases hz
    | some y =>
      rw [e] at hz
      have hz : y.1 = z := Option.some.inj hz
      have := bR_c hv hA (gC_9 hv) (show a < 8 by omega) (by decide : 0 < 21) e
      omega
/-- where the empty path fits, everyone fits with himself -/
theorem xP_ge {v : Gr} {A : Pa} (h1 : ¬ 1 &&& pAc A = 0) : ∀ a b, a ≤ gP v → b ≤ gP v → a + (if a < b then 1 else 0) ≤ (xP v A a b).1
  | 0, 0, _, _ => by rw [if_neg (by omega)]; exact Nat.zero_le _
  | a + 1, 0, ha, _ => by
    have h := xP_ge h1 a (gP v) (by omega) (Nat.le_refl _)
    rw [if_pos (by omega), xP_row] at h
    rw [if_neg (by omega)]
    exact h
  | a, b + 1, ha, hb => by
    have h := xP_ge h1 a b ha (by omega)
    rw [xP_1]
    by_cases e : a = b
    · subst e
      have hn : ¬ bR v A (gC v) (tgA A a) a 0 = none := fun q => by
        obtain ⟨t, q1, q2⟩ := and_ne.mp h1
        have ht : t = 0 := by
          rw [Nat.testBit_one_eq_true_iff_self_eq_zero] at q1
          exact q1
        subst ht
        exact bR_none q 0 0 ⟨rfl, rfl, q2⟩
      rw [if_neg hn, if_pos (by omega)]
      rw [if_neg (by omega)] at h
      omega
    · by_cases c : a < b
      · rw [if_pos c] at h
        rw [if_pos (by omega)]
        split <;> omega
      · rw [if_neg c] at h
        rw [if_neg (by omega)]
        split <;> omega
/-! what the calls say of a pair -/
def okZ (z : Zs) : Prop := vG (zX z)
theorem co_B {z : Zs} (h : vG (zX z)) {a b : Nat} (ha : a < gP (zG z)) (hb : b < gP (zG z)) : an_cost z a b = (bR (zG z) (vA (zX z)) (gC (zG z)) (tgA (vA (zX z)) b) a 0).map Prod.fst := by
  show sCs (zG z) (vA (zX z)) a (some b) 0 1512 b = _
  rw [sCs_0 h.1 h.2.1 h.2.2.1 ha hb, prM_0]
  rfl
theorem le_B {z : Zs} (h : vG (zX z)) {a b : Nat} (ha : a < gP (zG z)) (hb : b < gP (zG z)) : an_length z a b = (bR (zG z) (vA (zX z)) (gC (zG z)) (tgA (vA (zX z)) b) a 0).map Prod.snd := by
  show gfm (aFin (zG z) (vA (zX z)) b).2.2.1 a = _
  rw [gfm_M h.1 h.2.1 (vA_sy _) h.2.2.1 ha hb, prM_0]
theorem rsI_of {z : Zs} (h : vG (zX z)) {b : Nat} (hb : b < gP (zG z)) : rsI (zG z) (vA (zX z)) b (aFin (zG z) (vA (zX z)) b).2.2.1 := fun _ _ ha hi => aFin_eq h.1 h.2.1 (vA_sy _) h.2.2.1 hb ha hi
theorem s2_B {z : Zs} (h : vG (zX z)) {a b : Nat} (ha : a < gP (zG z)) (hb : b < gP (zG z)) : (an_person z a 2).testBit b = true ↔ ¬ bR (zG z) (vA (zX z)) (gC (zG z)) (tgA (vA (zX z)) b) a 0 = none := by
  show (pfB (sCs (zG z) (vA (zX z)) a none 0 1512) (gP (zG z))).testBit b = true ↔ _
  rw [pfB_bt, sCs_all h.1 h.2.1 h.2.2.1 ha hb, bC_n, prB_0]
  exact ⟨fun q => q.2, fun q => ⟨hb, q⟩⟩
theorem s3_B {z : Zs} (h : vG (zX z)) {a b : Nat} (ha : a < gP (zG z)) (hb : b < gP (zG z)) : (an_person z b 3).testBit a = true ↔ ¬ bR (zG z) (vA (zX z)) (gC (zG z)) (tgA (vA (zX z)) b) a 0 = none := by
  show (ptB (zG z) (vA (zX z)) b (gP (zG z))).testBit a = true ↔ _
  rw [ptB_f, pfB_bt]
  show (a < gP (zG z) ∧ ¬ sCs (zG z) (vA (zX z)) a (some b) 0 1512 b = none) ↔ _
  rw [sCs_0 h.1 h.2.1 h.2.2.1 ha hb, bC_n, prM_0]
  exact ⟨fun q => q.2, fun q => ⟨ha, q⟩⟩
theorem pth_z {z : Zs} (h : vG (zX z)) {a b c n : Nat} (ha : a < gP (zG z)) (hb : b < gP (zG z)) (e : bR (zG z) (vA (zX z)) (gC (zG z)) (tgA (vA (zX z)) b) a 0 = some (c, n)) :
    c ≤ 1503 ∧ n ≤ 167 ∧ ∃ (w f : Nat → Nat), w 0 = a ∧ w n = b ∧ f 0 = 0 ∧ f n = c ∧ ∀ k, k < n → ∃ s d, an_pathAt z a b k = some (10 * s + d) ∧ s < gN (zG z) ∧ d < 2 ∧ (if d = 0 then gF (zG z) s else gT (zG z) s) = w k ∧ (if d = 0 then gT (zG z) s else gF (zG z) s) = w (k + 1) ∧ f (k + 1) = f k + gC (zG z) s ∧ f (k + 1) ≤ c := by
  have h8 : gP (zG z) ≤ 8 := h.1.1
  exact ⟨bR_c h.1 h.2.1 (gC_9 h.1) (show a < 8 by omega) (by decide : 0 < 21) e, bR_n h.1 h.2.1 (show a < 8 by omega) (by decide : 0 < 21) e, pth h.1 h.2.1 h.2.2.1 (rsI_of h hb) ha e⟩
theorem pa_up (z : Zs) (a b g : Nat) : an_paths z a b g ≤ an_paths z a b (g + 1) := cF_up _ _ _ _ _ _
theorem pa_b {z : Zs} (h : vG (zX z)) (a b g : Nat) : an_paths z a b g ≤ 49 ^ g := cF_b h.2.2.2 _ _ _ _ _
theorem pa_pos {z : Zs} (h : vG (zX z)) {a b c n : Nat} (e : bR (zG z) (vA (zX z)) (gC (zG z)) (tgA (vA (zX z)) b) a 0 = some (c, n)) {g : Nat} (hg : n ≤ g) : 0 < an_paths z a b g := cF_pos h.1 h.2.1 n c a 0 1 g (bR_some e).1 (by decide) (by decide) hg
