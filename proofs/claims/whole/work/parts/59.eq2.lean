/-! THE SAME FOR bestNew, SCRIPTS, pathAt -/
theorem wf_put {v : Gr} (hv : wfG v) (h24 : gN v ≤ 24) {p k q c : Nat} (hp : p < 8) (hk : k < 4) (hq : q < 8) (hc : 1 ≤ c ∧ c ≤ 9) : wfG (gPut v p k q c) := by
  refine ⟨hv.1, by show gN v + 1 ≤ 25; omega, fun s hs => ?_⟩
  have hs : s < gN v + 1 := hs
  show (if s = gN v then p else gF v s) < 8 ∧ (if s = gN v then k else gK v s) < 4 ∧ (if s = gN v then q else gT v s) < 8 ∧ 1 ≤ (if s = gN v then c else gC v s) ∧ (if s = gN v then c else gC v s) ≤ 9
  by_cases e : s = gN v
  · rw [if_pos e, if_pos e, if_pos e, if_pos e]; exact ⟨hp, hk, hq, hc.1, hc.2⟩
  · rw [if_neg e, if_neg e, if_neg e, if_neg e]; exact hv.2.2 s (by omega)
theorem inP_put {v : Gr} (h : inP v) {p k q c : Nat} (hp : p < gP v) (hq : q < gP v) : inP (gPut v p k q c) := fun s hs => by
  have hs : s < gN v + 1 := hs
  show (if s = gN v then p else gF v s) < gP v ∧ (if s = gN v then q else gT v s) < gP v
  by_cases e : s = gN v
  · rw [if_pos e, if_pos e]; exact ⟨hp, hq⟩
  · rw [if_neg e, if_neg e]; exact h s (by omega)
theorem put_F {v : Gr} {p k q c s : Nat} (h : s < gN v) : gF (gPut v p k q c) s = gF v s := if_neg (by omega)
theorem put_K {v : Gr} {p k q c s : Nat} (h : s < gN v) : gK (gPut v p k q c) s = gK v s := if_neg (by omega)
theorem put_T {v : Gr} {p k q c s : Nat} (h : s < gN v) : gT (gPut v p k q c) s = gT v s := if_neg (by omega)
theorem put_C {v : Gr} {p k q c s : Nat} (h : s < gN v) : gC (gPut v p k q c) s = gC v s := if_neg (by omega)
/-- an old step goes on in the greater graph -/
theorem eR_put {v : Gr} {A : Pa} {p k q c a i b j d : Nat} (h : eR v A (gC v) a i b j d) : eR (gPut v p k q c) A (gC (gPut v p k q c)) a i b j d := by
  obtain ⟨s, hs, h1, h2, h3⟩ := h
  refine ⟨s, by show s < gN v + 1; omega, by rw [put_C hs]; exact h1, h2, ?_⟩
  rw [put_F hs, put_T hs, put_K hs]
  exact h3
/-- in the greater graph: an old going, or the new step's -/
theorem eR_put' {v : Gr} {A : Pa} {p k q c a i b j d : Nat} (h : eR (gPut v p k q c) A (gC (gPut v p k q c)) a i b j d) : eR v A (gC v) a i b j d ∨ (p = a ∧ (pA A i &&& pEn A 0 k).testBit j = true) ∨ (q = a ∧ (pA A i &&& pEn A 1 k).testBit j = true) := by
  obtain ⟨s, hs, h1, h2, h3⟩ := h
  have hs : s < gN v + 1 := hs
  by_cases e : s = gN v
  · have eF : gF (gPut v p k q c) s = p := if_pos e
    have eK : gK (gPut v p k q c) s = k := if_pos e
    have eT : gT (gPut v p k q c) s = q := if_pos e
    rw [eF, eK, eT] at h3
    rcases h3 with ⟨q1, q2, q3⟩ | ⟨q1, q2, q3⟩
    · exact Or.inr (Or.inl ⟨q1, q3⟩)
    · exact Or.inr (Or.inr ⟨q1, q3⟩)
  · have hs' : s < gN v := by omega
    rw [put_F hs', put_T hs', put_K hs'] at h3
    rw [put_C hs'] at h1
    exact Or.inl ⟨s, hs', h1, h2, h3⟩
/-- a new step that no position that is reached can use changes nothing -/
theorem bR_put {v : Gr} {A : Pa} (hv : wfG v) (hA : wfP A) (hP : inP v) {p a k b c q : Nat} (hp : p < gP v) (ha : a < gP v) (hb : b < gP v)
    (h1 : pFol A ((sFin v A p none 0 1512).2.2.1 a) &&& pE A k = 0) (h2 : pFol A ((sFin v A p none 0 1512).2.2.1 b) &&& pE A (4 + k) = 0) : bR (gPut v a k b c) A (gC (gPut v a k b c)) (tgA A q) p 0 = bR v A (gC v) (tgA A q) p 0 := by
  have hno : ∀ u i j y, (pFol A ((sFin v A p none 0 1512).2.2.1 u) &&& y) = 0 → u < gP v → (∃ n d, rR v A (gC v) p n d u i) → i < 21 → ¬ (pA A i &&& y).testBit j = true := by
    rintro u i j y hz hu ⟨n, d, hr⟩ hi hj
    have h3 : ((sFin v A p none 0 1512).2.2.1 u).testBit i = true := (sRc_all hv hA hP hp hu i).mpr ⟨d, n, by rw [prB_0]; exact hr⟩
    have h4 := (fol_bit A ((sFin v A p none 0 1512).2.2.1 u) y j).mpr ⟨i, hi, h3, hj⟩
    rw [hz, Nat.zero_testBit] at h4
    cases h4
  have hi21 : ∀ n d u i, rR v A (gC v) p n d u i → i < 21 := fun n d u i hr => by
    cases n with
    | zero => rw [hr.2.2]; decide
    | succ n =>
      obtain ⟨a', i', c1, c2, -, -, h4⟩ := hr
      exact (eR_b hv hA h4).2.2.1
  have hrr : ∀ n d u i, rR (gPut v a k b c) A (gC (gPut v a k b c)) p n d u i → rR v A (gC v) p n d u i := by
    intro n
    induction n with
    | zero => exact fun d u i h => h
    | succ n ih =>
      rintro d u i ⟨a', i', c1, c2, e1, hr, he⟩
      have hr' := ih c1 a' i' hr
      have hi := hi21 n c1 a' i' hr'
      rcases eR_put' he with h5 | ⟨q1, q2⟩ | ⟨q1, q2⟩
      · exact ⟨a', i', c1, c2, e1, hr', h5⟩
      · subst q1
        have q3 : (pA A i' &&& pE A k).testBit i = true := by
          have e : pEn A 0 k = pE A k := congrArg (pE A) (by omega)
          rw [e] at q2; exact q2
        exact absurd q3 (hno a i' i (pE A k) h1 ha ⟨n, c1, hr'⟩ hi)
      · subst q1
        have q3 : (pA A i' &&& pE A (4 + k)).testBit i = true := by
          have e : pEn A 1 k = pE A (4 + k) := congrArg (pE A) (by omega)
          rw [e] at q2; exact q2
        exact absurd q3 (hno b i' i (pE A (4 + k)) h2 hb ⟨n, c1, hr'⟩ hi)
  refine bR_congr (fun n d => ⟨fun h => ?_, fun h => fR_mono (fun _ _ _ _ _ q9 => eR_put q9) (fun _ _ q9 => q9) n d p 0 h⟩)
  obtain ⟨u, i, h3, h4⟩ := (rf_iff _ A _ (tgA A q) p n d).mpr h
  exact (rf_iff _ A _ (tgA A q) p n d).mp ⟨u, i, hrr n d u i h3, h4⟩
section
variable {z : Zs}
theorem cwA_M (h : vG (zX z)) {p q v l : Nat} (hp : p < gP (zG z)) (hq : q < gP (zG z)) (hm : mayB z v) : cwA z p q v l = cutO l ((bmX z p q v).map Prod.fst) ∨ cwA z p q v l = (bmX z p q v).map Prod.fst := by
  obtain ⟨⟨⟨⟨m1, m2⟩, m3⟩, m4⟩, m5⟩ := hm
  have h8 : gP (zG z) ≤ 8 := h.1.1
  have hw : wfG (nwG z v) := wf_put h.1 h.2.2.2 (by omega) m4 (by omega) (by decide)
  have hi : inP (nwG z v) := inP_put h.2.2.1 m1 m2
  unfold cwA
  split
  · next c =>
    refine Or.inr ?_
    show sCs (zG z) (vA (zX z)) p none 0 1512 q = _
    rw [sCs_all h.1 h.2.1 h.2.2.1 hp hq, prB_0]
    show (bR _ _ _ _ _ _).map Prod.fst = (bR _ _ _ _ _ _).map Prod.fst
    rw [prM_0, bR_put h.1 h.2.1 h.2.2.1 hp m1 m2 c.1 c.2]
  · refine Or.inl ?_
    rw [sCs_one hw h.2.1 hi (show p < gP (nwG z v) from hp) (show q < gP (nwG z v) from hq), prB_M]
    rfl
theorem bn_M (h : vG (zX z)) {p q : Nat} (hp : p < gP (zG z)) (hq : q < gP (zG z)) : ∀ v, (bnL z p q v).1 = (bnM z p q v).1 ∧ (((bnL z p q v).2 = 1512 ∧ (bnM z p q v).2 = 100000) ∨ ((bnL z p q v).2 = (bnM z p q v).2 ∧ (bnL z p q v).2 < 1512))
  | 0 => ⟨rfl, Or.inl ⟨rfl, rfl⟩⟩
  | v + 1 => by
    obtain ⟨i1, i2⟩ := bn_M h hp hq v
    have h8 : gP (zG z) ≤ 8 := h.1.1
    by_cases hm : mayB z v
    · have hm' := hm
      obtain ⟨⟨⟨⟨m1, m2⟩, m3⟩, m4⟩, m5⟩ := hm'
      have hw : wfG (nwG z v) := wf_put h.1 h.2.2.2 (by omega) m4 (by omega) (by decide)
      have heb : eb (bmX z p q v) := bR_eb hw h.2.1 (fun s hs => prM_9 hw none s hs) (by omega) (by decide)
      have hR : bnM z p q (v + 1) = if enM (bmX z p q v) / 1000 < (bnM z p q v).2 then (some v, enM (bmX z p q v) / 1000) else bnM z p q v := by
        show (if mayB z v then _ else _) = _
        rw [if_pos hm]
      have hc := cwA_M h (l := (bnL z p q v).2) hp hq hm
      cases ex : bmX z p q v with
      | none =>
        rw [ex] at hc hR
        have hc1 : cwA z p q v (bnL z p q v).2 = none := by rcases hc with q9 | q9 <;> exact q9
        have hL := bnL_1 (fo := (bnL z p q v).1) (l := (bnL z p q v).2) rfl hm hc1
        have hR2 : bnM z p q (v + 1) = bnM z p q v := by
          rw [hR, if_neg (by show ¬ 100000000 / 1000 < _; omega)]
        rw [hL, hR2]
        exact ⟨i1, i2⟩
      | some y =>
        have hy := heb y ex
        rw [ex] at hc hR
        have en : enM (some y) / 1000 = y.1 := by show (1000 * y.1 + y.2) / 1000 = y.1; omega
        rw [en] at hR
        by_cases hlt : y.1 < (bnL z p q v).2
        · have hc1 : cwA z p q v (bnL z p q v).2 = some y.1 := by
            rcases hc with q9 | q9
            · rw [q9]; exact if_pos hlt
            · exact q9
          have hL := bnL_2 (fo := (bnL z p q v).1) (l := (bnL z p q v).2) rfl hm hc1
          rw [if_pos hlt] at hL
          rw [if_pos (by omega)] at hR
          rw [hL, hR]
          exact ⟨rfl, Or.inr ⟨rfl, by show y.1 < 1512; omega⟩⟩
        · have hL : bnL z p q (v + 1) = bnL z p q v := by
            rcases hc with q9 | q9
            · exact bnL_1 (fo := (bnL z p q v).1) (l := (bnL z p q v).2) rfl hm (q9.trans (if_neg hlt))
            · have hL2 := bnL_2 (fo := (bnL z p q v).1) (l := (bnL z p q v).2) rfl hm q9
              rw [if_neg hlt] at hL2
              exact hL2
          rw [if_neg (by omega)] at hR
          rw [hL, hR]
          exact ⟨i1, i2⟩
    · have hL : bnL z p q (v + 1) = bnL z p q v := bnL_0 rfl hm
      have hR : bnM z p q (v + 1) = bnM z p q v := by
        show (if mayB z v then _ else _) = _
        rw [if_neg hm]
      rw [hL, hR]
      exact ⟨i1, i2⟩
theorem bnM_up (z : Zs) (p q : Nat) : ∀ n, bnM z p q (100 * gP (zG z) + n) = bnM z p q (100 * gP (zG z))
  | 0 => rfl
  | n + 1 => by
    show (if mayB z (100 * gP (zG z) + n) then _ else _) = _
    rw [if_neg (fun q9 => by have := q9.1.1.1.1; omega)]
    exact bnM_up z p q n
theorem eq_bestNew (h : vG (zX z)) {p q : Nat} (hp : p < gP (zG z)) (hq : q < gP (zG z)) : an_bestNew z p q = am_bestNew z p q := by
  have h8 : gP (zG z) ≤ 8 := h.1.1
  unfold an_bestNew am_bestNew
  have h1 := bnM_up z p q (800 - 100 * gP (zG z))
  rw [show 100 * gP (zG z) + (800 - 100 * gP (zG z)) = 800 by omega] at h1
  rw [h1]
  exact (bn_M h hp hq _).1
end
/-! scripts -/
theorem ndM_bit (v : Gr) (A : Pa) (p q : Nat) : ∀ n s, s < n → ((ndM v A p q n).testBit s = true ↔ bR v A (prM v (some s)) (tgA A q) p 0 = none)
  | n + 1, s, hs => by
    unfold ndM
    rw [Nat.testBit_or, Bool.or_eq_true]
    by_cases e : s = n
    · subst e
      have h1 : (ndM v A p q s).testBit s = false := Nat.testBit_lt_two_pow (ndM_lt v A p q s)
      rw [h1]
      by_cases c : bR v A (prM v (some s)) (tgA A q) p 0 = none
      · rw [if_pos c, Nat.testBit_two_pow_self]
        exact ⟨fun _ => c, fun _ => Or.inr rfl⟩
      · rw [if_neg c, Nat.zero_testBit]
        exact ⟨fun w => w.elim (fun w => Bool.noConfusion w) (fun w => Bool.noConfusion w), fun w => absurd w c⟩
    · have h1 := ndM_bit v A p q n s (by omega)
      have h2 : (if bR v A (prM v (some n)) (tgA A q) p 0 = none then 2 ^ n else 0).testBit s = false := by
        split
        · exact Nat.testBit_two_pow_of_ne (fun w => e w.symm)
        · exact Nat.zero_testBit s
      rw [h2]
      exact ⟨fun w => w.elim h1.mp (fun w => Bool.noConfusion w), fun w => Or.inl (h1.mpr w)⟩
theorem ho_cases (ho : Nat) : ho < 6 ∨ ho = 6 ∨ ho = 7 ∨ ho = 8 ∨ ho = 9 ∨ 9 < ho := by omega
theorem hdC_M {v : Gr} {A : Pa} (hv : wfG v) (hA : wfP A) (hy : syP A) (hP : inP v) (ho a b c d : Nat) (hho : ho ≤ 9) (hc : c ≤ 9) (hd : d ≤ 9) : hdC v A ho a b c d ↔ hdM v A ho a b c d := by
  have h8 : gP v ≤ 8 := hv.1
  rcases ho_cases ho with h | rfl | rfl | rfl | rfl | h
  · exact ⟨fun q => absurd q (hdC_0 h), fun q => absurd q (hdM_0 h)⟩
  · rw [hdC_6, hdM_6]
    refine and_congr_right (fun hab => ?_)
    rw [sCs_one hv hA hP hab.1 hab.2, prB_M]
    show ¬ cutO _ ((bG v A a b).map Prod.fst) = none ↔ _
    cases bG v A a b with
    | none => exact ⟨fun q => absurd rfl q, fun ⟨y, hy, _⟩ => nomatch hy⟩
    | some y =>
      show ¬ (if y.1 < 10 * c + d + 1 then some y.1 else none) = none ↔ _
      constructor
      · intro q
        refine ⟨y, rfl, ?_⟩
        rcases Nat.lt_or_ge y.1 (10 * c + d + 1) with w | w
        · omega
        · exact absurd (if_neg (by omega)) q
      · rintro ⟨y', hy', hle⟩
        cases hy'
        rw [if_pos (by omega)]
        exact fun w => nomatch w
  · rw [hdC_7, hdM_7]
    refine and_congr_right (fun hab => ?_)
    rw [gfm_M hv hA hy hP hab.1.1 hab.1.2]
    show (¬ (bG v A a b).map Prod.snd = none ∧ ((bG v A a b).map Prod.snd).getD 0 ≤ d) ↔ _
    cases bG v A a b with
    | none => exact ⟨fun q => absurd rfl q.1, fun ⟨y, hy, _⟩ => nomatch hy⟩
    | some y => exact ⟨fun q => ⟨y, rfl, q.2⟩, fun ⟨y', hy', hle⟩ => by cases hy'; exact ⟨fun w => (nomatch w), hle⟩⟩
  · rw [hdC_8, hdM_8]
    constructor
    · rintro ⟨⟨h1, h2⟩, h3⟩
      rw [pfB_M hv hA hP h1 _ (Nat.le_refl _)] at h3
      exact ⟨⟨h2, h1⟩, h3⟩
    · rintro ⟨⟨h1, h2⟩, h3⟩
      rw [← pfB_M hv hA hP h2 _ (Nat.le_refl _)] at h3
      exact ⟨⟨h2, h1⟩, h3⟩
  · rw [hdC_9, hdM_9]
    constructor
    · rintro ⟨⟨h1, h2, h3⟩, h4, h5⟩
      rw [sCs_0 hv hA hP h2 h3, bC_n] at h4
      rw [sCs_b hv hA hP h2 h3, bC_n, prB_pow] at h5
      refine ⟨⟨⟨h1, h2⟩, h3⟩, ?_⟩
      show (if bG v A c d = none then 0 else ndM v A c d (gN v)).testBit (10 * a + b) = true
      rw [if_neg h4]
      exact (ndM_bit v A c d (gN v) _ h1).mpr h5
    · rintro ⟨⟨⟨h1, h2⟩, h3⟩, h4⟩
      have h4 : (if bG v A c d = none then 0 else ndM v A c d (gN v)).testBit (10 * a + b) = true := h4
      by_cases e : bG v A c d = none
      · rw [if_pos e, Nat.zero_testBit] at h4
        cases h4
      · rw [if_neg e] at h4
        have h5 := (ndM_bit v A c d (gN v) _ h1).mp h4
        refine ⟨⟨h1, h2, h3⟩, ?_, ?_⟩
        · rw [sCs_0 hv hA hP h2 h3, bC_n]; exact e
        · rw [sCs_b hv hA hP h2 h3, bC_n, prB_pow]; exact h5
  · omega
theorem cmCB_M {v : Gr} {A : Pa} (hv : wfG v) (hA : wfP A) (hy : syP A) (hP : inP v) {ho a b c d : Nat} (hho : ho ≤ 9) (hc : c ≤ 9) (hd : d ≤ 9) : cmCB v A ho a b c d = cmB v A ho a b c d := by
  have h1 : cmB v A ho a b c d = true ↔ ((cgG v ho a b c d).isSome = true ∨ hdC v A ho a b c d) := by
    rw [cmB_iff, hdC_M hv hA hy hP ho a b c d hho hc hd]
    exact or_congr ⟨fun ⟨w, e⟩ => by rw [e]; rfl, fun q => Option.isSome_iff_exists.mp q⟩ Iff.rfl
  cases e : cmB v A ho a b c d with
  | true => exact cmCB_t (h1.mp e)
  | false =>
    cases e2 : cmCB v A ho a b c d with
    | false => rfl
    | true =>
      exfalso
      refine cmCB_f (fun q => ?_) (fun q => ?_) e2
      · have := h1.mpr (Or.inl q); rw [e] at this; cases this
      · have := h1.mpr (Or.inr q); rw [e] at this; cases this
theorem gDr_in {v : Gr} {i : Nat} (hv : wfG v) (hi : i < gN v) : wfG (gDrop v i) := by
  refine ⟨hv.1, by show gN v - 1 ≤ 25; have := hv.2.1; omega, fun s hs => ?_⟩
  have hs : s < gN v - 1 := hs
  show gDr (gF v) i s < 8 ∧ gDr (gK v) i s < 4 ∧ gDr (gT v) i s < 8 ∧ 1 ≤ gDr (gC v) i s ∧ gDr (gC v) i s ≤ 9
  unfold gDr
  by_cases e : i ≤ s
  · rw [if_pos e, if_pos e, if_pos e, if_pos e]; exact hv.2.2 (s + 1) (by omega)
  · rw [if_neg e, if_neg e, if_neg e, if_neg e]; exact hv.2.2 s (by omega)
theorem inP_drop {v : Gr} {i : Nat} (h : inP v) (hi : i < gN v) : inP (gDrop v i) := fun s hs => by
  have hs : s < gN v - 1 := hs
  show gDr (gF v) i s < gP v ∧ gDr (gT v) i s < gP v
  unfold gDr
  by_cases e : i ≤ s
  · rw [if_pos e, if_pos e]; exact h (s + 1) (by omega)
  · rw [if_neg e, if_neg e]; exact h s (by omega)
theorem wf_rev {v : Gr} {i : Nat} (hv : wfG v) (hi : i < gN v) : wfG (gRev v i) := by
  refine ⟨hv.1, hv.2.1, fun s hs => ?_⟩
  have hs : s < gN v := hs
  show (if s = i then gT v i else gF v s) < 8 ∧ gK v s < 4 ∧ (if s = i then gF v i else gT v s) < 8 ∧ 1 ≤ gC v s ∧ gC v s ≤ 9
  have h1 := hv.2.2 s hs
  have h2 := hv.2.2 i hi
  by_cases e : s = i
  · rw [if_pos e, if_pos e]; omega
  · rw [if_neg e, if_neg e]; exact h1
theorem inP_rev {v : Gr} {i : Nat} (h : inP v) (hi : i < gN v) : inP (gRev v i) := fun s hs => by
  have hs : s < gN v := hs
  show (if s = i then gT v i else gF v s) < gP v ∧ (if s = i then gF v i else gT v s) < gP v
  by_cases e : s = i
  · rw [if_pos e, if_pos e]; exact ⟨(h i hi).2, (h i hi).1⟩
  · rw [if_neg e, if_neg e]; exact h s hs
theorem wf_swp {v : Gr} {k l : Nat} (hv : wfG v) (hk : k < 4) (hl : l < 4) : wfG (gSwp v k l) := by
  refine ⟨hv.1, hv.2.1, fun s hs => ?_⟩
  have h1 := hv.2.2 s hs
  refine ⟨h1.1, ?_, h1.2.2⟩
  show gSw k l (gK v s) < 4
  unfold gSw
  split
  · exact hl
  · split
    · exact hk
    · exact h1.2.1
/-- a command keeps what a graph is to be -/
theorem cgG_ok {v w : Gr} {ho a b c d : Nat} (hv : wfG v) (hP : inP v) (h24 : gN v ≤ 24) (ha : a ≤ 9) (hb : b ≤ 9) (hc : c ≤ 9) (hd : d ≤ 9) (h : cgG v ho a b c d = some w) : wfG w ∧ inP w ∧ gN w ≤ 24 := by
  have h8 : gP v ≤ 8 := hv.1
  have tca : (nI a).toInt = (a : Int) := nI_toInt (by omega)
  have tcb : (nI b).toInt = (b : Int) := nI_toInt (by omega)
  have tcc : (nI c).toInt = (c : Int) := nI_toInt (by omega)
  have tcd : (nI d).toInt = (d : Int) := nI_toInt (by omega)
  unfold cgG at h
  split at h
  · split at h
    · next q =>
      cases h
      obtain ⟨k1, k2, k3, k4, k5, k6⟩ := gWhy_0 q
      exact ⟨wf_put hv h24 (by omega) (by omega) (by omega) (by omega), inP_put hP (by omega) (by omega), by show gN v + 1 ≤ 24; omega⟩
    · cases h
  · split at h
    · next q =>
      cases h
      exact ⟨gDr_in hv q.2, inP_drop hP q.2, by show gN v - 1 ≤ 24; omega⟩
    · cases h
  · split at h
    · next q =>
      cases h
      exact ⟨wfG.cost hv _ (by omega), hP, h24⟩
    · cases h
  · split at h
    · next q =>
      cases h
      have hs := wtN_lt q.2
      exact ⟨wf_rev hv hs, inP_rev hP hs, h24⟩
    · cases h
  · split at h
    · next q =>
      cases h
      exact ⟨wf_swp hv q.2.1 q.2.2, hP, h24⟩
    · cases h
  · cases h
theorem cmV_ok {v : Gr} {ho a b c d : Nat} (hv : wfG v) (hP : inP v) (h24 : gN v ≤ 24) (ha : a ≤ 9) (hb : b ≤ 9) (hc : c ≤ 9) (hd : d ≤ 9) : wfG (cmV v ho a b c d) ∧ inP (cmV v ho a b c d) ∧ gN (cmV v ho a b c d) ≤ 24 := by
  unfold cmV
  cases e : cgG v ho a b c d with
  | none => exact ⟨hv, hP, h24⟩
  | some w => exact cgG_ok hv hP h24 ha hb hc hd e
theorem rsC_M {A : Pa} (hA : wfP A) (hy : syP A) (sc n : Nat) : ∀ f k v, wfG v → inP v → gN v ≤ 24 → rsC A sc n f k v = rsF A sc n f k v
  | 0, _, _, _, _, _ => rfl
  | f + 1, k, v, hv, hP, h24 => by
    obtain ⟨gr, hgr⟩ : ∃ gr, sc / 100000 ^ (n - (k + 1)) % 100000 = gr := ⟨_, rfl⟩
    have h9 : gr < 100000 := by rw [← hgr]; exact Nat.mod_lt _ (by decide)
    rw [rsC_g hgr, rsF_g hgr, cmCB_M hv hA hy hP (by omega) (by omega) (by omega)]
    obtain ⟨w1, w2, w3⟩ := cmV_ok (ho := gr / 10000) (a := gr / 1000 % 10) (b := gr / 100 % 10) (c := gr / 10 % 10) (d := gr % 10) hv hP h24 (by omega) (by omega) (by omega) (by omega)
    rw [rsC_M hA hy sc n f (k + 1) _ w1 w2 w3]
theorem eq_runScript {z : Zs} (h : vG (zX z)) (n sc : Nat) : an_runScript z n sc = am_runScript z n sc := rsC_M h.2.1 (vA_sy _) sc n n 0 _ h.1 h.2.2.1 h.2.2.2
/-! the walk along the best path: 256 and 1000 -/
theorem lvM_bt (rs : Nat → Nat) (a se k lf j : Nat) : ∀ n, ((lvM rs a se k lf n).testBit j = true ↔ j < n ∧ se.testBit j = true ∧ rs (21 * a + j) + k = lf)
  | 0 => ⟨fun q => (by rw [show lvM rs a se k lf 0 = 0 from rfl, Nat.zero_testBit] at q; cases q), fun q => absurd q.1 (Nat.not_lt_zero _)⟩
  | n + 1 => by
    unfold lvM
    rw [Nat.testBit_or, Bool.or_eq_true, lvM_bt rs a se k lf j n]
    have h2 : (if se.testBit n = true ∧ rs (21 * a + n) + k = lf then 2 ^ n else 0).testBit j = true ↔ (j = n ∧ se.testBit n = true ∧ rs (21 * a + n) + k = lf) := by
      split
      · next c =>
        by_cases e : n = j
        · subst e; rw [Nat.testBit_two_pow_self]; exact ⟨fun _ => ⟨rfl, c⟩, fun _ => rfl⟩
        · rw [Nat.testBit_two_pow_of_ne e]; exact ⟨fun q => (nomatch q), fun q => absurd q.1.symm e⟩
      · next c => rw [Nat.zero_testBit]; exact ⟨fun q => (nomatch q), fun q => absurd q.2 c⟩
    rw [h2]
    constructor
    · rintro (⟨q1, q2⟩ | ⟨q1, q2⟩)
      · exact ⟨by omega, q2⟩
      · subst q1; exact ⟨Nat.lt_succ_self _, q2⟩
    · rintro ⟨q1, q2⟩
      by_cases e : j = n
      · subst e; exact Or.inr ⟨rfl, q2⟩
      · exact Or.inl ⟨by omega, q2⟩
theorem lvM_bit {rs : Nat → Nat} {a se k lf j n : Nat} (h : j < n) (h1 : se.testBit j = true) (h2 : rs (21 * a + j) + k = lf) : (lvM rs a se k lf n).testBit j = true := (lvM_bt rs a se k lf j n).mpr ⟨h, h1, h2⟩
theorem lvM_ex2 {rs : Nat → Nat} {a se k lf n : Nat} (h : ¬ lvM rs a se k lf n = 0) : ∃ i, i < n ∧ rs (21 * a + i) + k = lf ∧ (lvM rs a se k lf n).testBit i = true := by
  obtain ⟨i, hi⟩ := Nat.exists_testBit_of_ne_zero h
  have h1 := (lvM_bt rs a se k lf i n).mp hi
  exact ⟨i, h1.1, h1.2.2, hi⟩
theorem lvM_ex {rs : Nat → Nat} {a se k lf n : Nat} (h : ¬ lvM rs a se k lf n = 0) : ∃ i, i < n ∧ rs (21 * a + i) + k = lf := by
  obtain ⟨i, h1, h2, -⟩ := lvM_ex2 h
  exact ⟨i, h1, h2⟩
theorem avO_lt {g : Nat → Option Wk} {w : Nat × Wk} : ∀ f o, avO g f o = some w → w.1 < o + f
  | 0, o, h => nomatch h
  | f + 1, o, h => by
    unfold avO at h
    cases e : g o with
    | none =>
      rw [e] at h
      have := avO_lt f (o + 1) h
      omega
    | some y =>
      rw [e] at h
      cases h
      show o < o + (f + 1)
      omega
/-- the same place of both walks -/
def wkR (x y : Wk) : Prop := x.1 = y.1 ∧ x.2.1 = y.2.1 ∧ ∃ c n, c ≤ 1503 ∧ n ≤ 167 ∧ x.2.2 = 256 * c + n ∧ y.2.2 = 1000 * c + n
theorem lv_eq {v : Gr} {A : Pa} {q : Nat} (hv : wfG v) (hA : wfP A) {rs fr : Nat → Nat} (h1 : ∀ a i, a < 8 → i < 21 → rs (a * 21 + i) = enc 256 387072 (bR v A (gC v) (tgA A q) a i)) (h2 : ∀ a i, a < 8 → i < 21 → fr (21 * a + i) = enM (bR v A (gC v) (tgA A q) a i)) {a se g c n : Nat} (ha : a < 8) (hc : c ≤ 1503) (hn : n ≤ 167) (hg : g ≤ 9) : ∀ i, i ≤ 21 → lvB rs a se (256 * g + 1) (256 * c + n) i = lvM fr a se (1000 * g + 1) (1000 * c + n) i
  | 0, _ => rfl
  | i + 1, hi => by
    unfold lvB lvM
    rw [lv_eq hv hA h1 h2 ha hc hn hg i (by omega), h1 a i ha (by omega), h2 a i ha (by omega)]
    have e : (enc 256 387072 (bR v A (gC v) (tgA A q) a i) + (256 * g + 1) = 256 * c + n) ↔ (enM (bR v A (gC v) (tgA A q) a i) + (1000 * g + 1) = 1000 * c + n) := by
      cases eb : bR v A (gC v) (tgA A q) a i with
      | none =>
        show 387072 + (256 * g + 1) = 256 * c + n ↔ 100000000 + (1000 * g + 1) = 1000 * c + n
        omega
      | some y =>
        have b1 := bR_n hv hA ha (by omega) eb
        show 256 * y.1 + y.2 + (256 * g + 1) = 256 * c + n ↔ 1000 * y.1 + y.2 + (1000 * g + 1) = 1000 * c + n
        omega
    by_cases c1 : se.testBit i = true
    · by_cases c2 : enc 256 387072 (bR v A (gC v) (tgA A q) a i) + (256 * g + 1) = 256 * c + n
      · rw [if_pos ⟨c1, c2⟩, if_pos ⟨c1, e.mp c2⟩]
      · rw [if_neg (fun w => c2 w.2), if_neg (fun w => c2 (e.mpr w.2))]
    · rw [if_neg (fun w => c1 w.1), if_neg (fun w => c1 w.1)]
theorem fol_L {A : Pa} (h : auP A) (ps y j : Nat) (hj : pL A < j) : (pFol A ps &&& y).testBit j = false := by
  cases e : (pFol A ps &&& y).testBit j with
  | false => rfl
  | true =>
    obtain ⟨i, -, -, h3⟩ := (fol_bit A ps y j).mp e
    rw [Nat.testBit_and, Bool.and_eq_true] at h3
    have := h.2.1 i j h3.1
    omega
theorem gw_eq {v : Gr} {A : Pa} {q : Nat} (hv : wfG v) (hA : wfP A) (hu : auP A) {rs fr : Nat → Nat} (h1 : ∀ a i, a < 8 → i < 21 → rs (a * 21 + i) = enc 256 387072 (bR v A (gC v) (tgA A q) a i)) (h2 : ∀ a i, a < 8 → i < 21 → fr (21 * a + i) = enM (bR v A (gC v) (tgA A q) a i)) {x y : Wk} (h : wkR x y) {s d : Nat} (hs : s < gN v) (hd : d < 2) :
    (gw v A rs x s d = none ∧ gwM v A fr y (2 * s + d) = none) ∨ ∃ x' y', gw v A rs x s d = some x' ∧ gwM v A fr y (2 * s + d) = some y' ∧ wkR x' y' := by
  obtain ⟨e1, e2, c, n, hc, hn, e3, e4⟩ := h
  have hb := hv.2.2 s hs
  have hb2 : (if d = 0 then gT v s else gF v s) < 8 := by split <;> omega
  have eo : (2 * s + d) / 2 = s := by omega
  have em : (2 * s + d) % 2 = d := by omega
  have hlv := lv_eq hv hA h1 h2 (a := if d = 0 then gT v s else gF v s) (se := pFol A y.2.1 &&& pEn A d (gK v s)) (g := gC v s) hb2 hc hn hb.2.2.2.2 21 (Nat.le_refl _)
  have hup : lvM fr (if d = 0 then gT v s else gF v s) (pFol A y.2.1 &&& pEn A d (gK v s)) (1000 * gC v s + 1) (1000 * c + n) 21 = lvM fr (if d = 0 then gT v s else gF v s) (pFol A y.2.1 &&& pEn A d (gK v s)) (1000 * gC v s + 1) (1000 * c + n) (pL A + 1) := lvM_up (fun j hj => fol_L hu _ _ j (by omega)) 21 (by have := hu.1; omega)
  unfold gw gwM
  rw [eo, em, e1, e2, e3, e4, hlv, hup]
  by_cases c1 : (if d = 0 then gF v s else gT v s) = y.1
  · rw [if_pos c1, if_pos c1]
    by_cases c2 : lvM fr (if d = 0 then gT v s else gF v s) (pFol A y.2.1 &&& pEn A d (gK v s)) (1000 * gC v s + 1) (1000 * c + n) (pL A + 1) = 0
    · rw [if_pos c2, if_pos c2]
      exact Or.inl ⟨rfl, rfl⟩
    · rw [if_neg c2, if_neg c2]
      have hle : 1000 * gC v s + 1 ≤ 1000 * c + n := (Nat.lt_or_ge (1000 * c + n) (1000 * gC v s + 1)).elim (fun w => absurd (lvM_le w _) c2) id
      have hle2 : 256 * gC v s + 1 ≤ 256 * c + n := (Nat.lt_or_ge (256 * c + n) (256 * gC v s + 1)).elim (fun w => absurd (hup ▸ hlv ▸ lvB_le w 21) c2) id
      obtain ⟨i, hi1, hi2⟩ := lvM_ex c2
      refine Or.inr ⟨_, _, rfl, rfl, rfl, rfl, ?_⟩
      have hbd := hi2
      rw [h2 _ i hb2 (by have := hu.1; omega)] at hbd
      cases eb : bR v A (gC v) (tgA A q) (if d = 0 then gT v s else gF v s) i with
      | none =>
        rw [eb] at hbd
        have hbd : 100000000 + (1000 * gC v s + 1) = 1000 * c + n := hbd
        omega
      | some y9 =>
        have b1 := bR_n hv hA hb2 (by have := hu.1; omega) eb
        rw [eb] at hbd
        have hbd : 1000 * y9.1 + y9.2 + (1000 * gC v s + 1) = 1000 * c + n := hbd
        refine ⟨y9.1, y9.2, by omega, by omega, ?_, ?_⟩
        · show 256 * c + n - (256 * gC v s + 1) = 256 * y9.1 + y9.2
          omega
        · show 1000 * c + n - (1000 * gC v s + 1) = 1000 * y9.1 + y9.2
          omega
  · rw [if_neg c1, if_neg c1]
    exact Or.inl ⟨rfl, rfl⟩
theorem av_eq {v : Gr} {A : Pa} {q : Nat} (hv : wfG v) (hA : wfP A) (hu : auP A) {rs fr : Nat → Nat} (h1 : ∀ a i, a < 8 → i < 21 → rs (a * 21 + i) = enc 256 387072 (bR v A (gC v) (tgA A q) a i)) (h2 : ∀ a i, a < 8 → i < 21 → fr (21 * a + i) = enM (bR v A (gC v) (tgA A q) a i)) {x y : Wk} (h : wkR x y) : ∀ f s, s + f = gN v →
    (avF v A rs x f s = none ∧ avO (gwM v A fr y) (2 * f) (2 * s) = none) ∨ ∃ x' w, avF v A rs x f s = some (10 * (w.1 / 2) + w.1 % 2, x') ∧ avO (gwM v A fr y) (2 * f) (2 * s) = some w ∧ wkR x' w.2
  | 0, s, _ => Or.inl ⟨rfl, rfl⟩
  | f + 1, s, hf => by
    have g0 := gw_eq hv hA hu h1 h2 h (s := s) (d := 0) (by omega) (by decide)
    have g1 := gw_eq hv hA hu h1 h2 h (s := s) (d := 1) (by omega) (by decide)
    have e0 : 2 * (f + 1) = 2 * f + 1 + 1 := by omega
    rw [Nat.add_zero] at g0
    rcases g0 with ⟨a1, a2⟩ | ⟨x', y', a1, a2, a3⟩
    · rcases g1 with ⟨b1, b2⟩ | ⟨x', y', b1, b2, b3⟩
      · have ih := av_eq hv hA hu h1 h2 h f (s + 1) (by omega)
        have l1 : avF v A rs x (f + 1) s = avF v A rs x f (s + 1) := by rw [avF, a1, b1]
        have l2 : avO (gwM v A fr y) (2 * (f + 1)) (2 * s) = avO (gwM v A fr y) (2 * f) (2 * (s + 1)) := by
          rw [e0, avO, a2]
          show avO (gwM v A fr y) (2 * f + 1) (2 * s + 1) = _
          rw [avO, b2]
          show avO (gwM v A fr y) (2 * f) (2 * s + 1 + 1) = _
          rw [show 2 * s + 1 + 1 = 2 * (s + 1) by omega]
        rw [l1, l2]
        exact ih
      · refine Or.inr ⟨x', (2 * s + 1, y'), ?_, ?_, b3⟩
        · rw [avF, a1, b1]
          show some (10 * s + 1, x') = some (10 * ((2 * s + 1) / 2) + (2 * s + 1) % 2, x')
          rw [show (2 * s + 1) / 2 = s by omega, show (2 * s + 1) % 2 = 1 by omega]
        · rw [e0, avO, a2]
          show avO (gwM v A fr y) (2 * f + 1) (2 * s + 1) = _
          rw [avO, b2]
    · refine Or.inr ⟨x', (2 * s, y'), ?_, ?_, a3⟩
      · rw [avF, a1]
        show some (10 * s + 0, x') = some (10 * ((2 * s) / 2) + (2 * s) % 2, x')
        rw [show (2 * s) / 2 = s by omega, show (2 * s) % 2 = 0 by omega]
      · rw [e0, avO, a2]
/-- the walk does go on while goings are left -/
theorem av_goes {v : Gr} {A : Pa} {q : Nat} (hv : wfG v) (hA : wfP A) (hu : auP A) {fr : Nat → Nat} (h2 : ∀ a i, a < 8 → i < 21 → fr (21 * a + i) = enM (bR v A (gC v) (tgA A q) a i)) {y : Wk} {i c n : Nat} (hi : y.2.1.testBit i = true) (hi21 : i < 21) (hb : bR v A (gC v) (tgA A q) y.1 i = some (c, n + 1)) (h9 : y.2.2 = 1000 * c + (n + 1)) : ∃ o y', o < 2 * gN v ∧ gwM v A fr y o = some y' := by
  obtain ⟨b, j, c1, c2, e1, ⟨s, hs, p1, p2, hd⟩, e3⟩ := bR_tail hb
  have hbs := hv.2.2 s hs
  have key : ∀ d, d < 2 → (if d = 0 then gF v s else gT v s) = y.1 → (if d = 0 then gT v s else gF v s) = b → (pA A i &&& pEn A d (gK v s)).testBit j = true → ∃ o y', o < 2 * gN v ∧ gwM v A fr y o = some y' := by
    intro d hd2 f1 f2 f3
    have eo : (2 * s + d) / 2 = s := by omega
    have em : (2 * s + d) % 2 = d := by omega
    have hb8 : b < 8 := by rw [← f2]; split <;> omega
    have hjL : j ≤ pL A := by
      rw [Nat.testBit_and, Bool.and_eq_true] at f3
      exact (hu.2.1 i j f3.1).2
    have hj21 : j < 21 := by have := hu.1; omega
    have hbit : (lvM fr b (pFol A y.2.1 &&& pEn A d (gK v s)) (1000 * gC v s + 1) y.2.2 (pL A + 1)).testBit j = true := by
      refine lvM_bit (by omega) ((fol_bit A y.2.1 _ j).mpr ⟨i, hi21, hi, f3⟩) ?_
      rw [h2 b j hb8 hj21, e3, h9]
      show 1000 * c2 + n + (1000 * gC v s + 1) = 1000 * c + (n + 1)
      omega
    refine ⟨2 * s + d, (b, lvM fr b (pFol A y.2.1 &&& pEn A d (gK v s)) (1000 * gC v s + 1) y.2.2 (pL A + 1), y.2.2 - (1000 * gC v s + 1)), by omega, ?_⟩
    unfold gwM
    rw [eo, em, if_pos f1, f2, if_neg (fun w => by rw [w, Nat.zero_testBit] at hbit; cases hbit)]
  rcases hd with ⟨q1, q2, q3⟩ | ⟨q1, q2, q3⟩
  · exact key 0 (by decide) q1 q2 q3
  · exact key 1 (by decide) q1 q2 q3
theorem avO_val {g : Nat → Option Wk} {w : Nat × Wk} : ∀ f o, avO g f o = some w → g w.1 = some w.2
  | 0, o, h => nomatch h
  | f + 1, o, h => by
    unfold avO at h
    cases e : g o with
    | none => rw [e] at h; exact avO_val f (o + 1) h
    | some y =>
      rw [e] at h
      cases h
      exact e
theorem avO_none {g : Nat → Option Wk} : ∀ f o, avO g f o = none → ∀ k, o ≤ k → k < o + f → g k = none
  | 0, o, _, k, h1, h2 => absurd h2 (by omega)
  | f + 1, o, h, k, h1, h2 => by
    unfold avO at h
    cases e : g o with
    | none =>
      rw [e] at h
      by_cases c : k = o
      · rw [c]; exact e
      · exact avO_none f (o + 1) h k (by omega) (by omega)
    | some y => rw [e] at h; cases h
/-- where the walk stands, n goings before its end -/
def wkI (v : Gr) (A : Pa) (q : Nat) (x y : Wk) (n : Nat) : Prop := x.1 = y.1 ∧ x.2.1 = y.2.1 ∧ ∃ c i, c ≤ 1503 ∧ n ≤ 167 ∧ x.2.2 = 256 * c + n ∧ y.2.2 = 1000 * c + n ∧ i < 21 ∧ y.2.1.testBit i = true ∧ bR v A (gC v) (tgA A q) y.1 i = some (c, n)
theorem wkI.go {v : Gr} {A : Pa} {q : Nat} (hv : wfG v) (hA : wfP A) (hu : auP A) {rs fr : Nat → Nat} (h1 : ∀ a i, a < 8 → i < 21 → rs (a * 21 + i) = enc 256 387072 (bR v A (gC v) (tgA A q) a i)) (h2 : ∀ a i, a < 8 → i < 21 → fr (21 * a + i) = enM (bR v A (gC v) (tgA A q) a i)) {x y : Wk} {n : Nat} (h : wkI v A q x y (n + 1)) : ∃ x' w, av v A rs x = some (10 * (w.1 / 2) + w.1 % 2, x') ∧ avO (gwM v A fr y) (2 * gN v - 0) 0 = some w ∧ wkI v A q x' w.2 n := by
  obtain ⟨e1, e2, c, i, hc, hn, e3, e4, hi21, hi, hb⟩ := h
  obtain ⟨o, y', ho, hy'⟩ := av_goes hv hA hu h2 hi hi21 hb e4
  have hR : wkR x y := ⟨e1, e2, c, n + 1, hc, hn, e3, e4⟩
  rcases av_eq hv hA hu h1 h2 hR (gN v) 0 (by omega) with ⟨a1, a2⟩ | ⟨x', w, a1, a2, a3⟩
  · have := avO_none _ _ a2 o (by omega) (by omega)
    rw [this] at hy'
    cases hy'
  · refine ⟨x', w, a1, by rw [Nat.sub_zero]; exact a2, ?_⟩
    have hg := avO_val _ _ a2
    obtain ⟨r1, r2, c3, n3, hc3, hn3, r3, r4⟩ := a3
    unfold gwM at hg
    by_cases b1 : (if w.1 % 2 = 0 then gF v (w.1 / 2) else gT v (w.1 / 2)) = y.1
    · rw [if_pos b1] at hg
      by_cases b2 : lvM fr (if w.1 % 2 = 0 then gT v (w.1 / 2) else gF v (w.1 / 2)) (pFol A y.2.1 &&& pEn A (w.1 % 2) (gK v (w.1 / 2))) (1000 * gC v (w.1 / 2) + 1) y.2.2 (pL A + 1) = 0
      · rw [if_pos b2] at hg; cases hg
      · rw [if_neg b2] at hg
        have hw := Option.some.inj hg
        obtain ⟨j, hj1, hj2, hj3⟩ := lvM_ex2 b2
        have hj21 : j < 21 := by have := hu.1; omega
        have w1 : w.2.1 = (if w.1 % 2 = 0 then gT v (w.1 / 2) else gF v (w.1 / 2)) := by rw [← hw]
        have w2 : w.2.2.1 = lvM fr (if w.1 % 2 = 0 then gT v (w.1 / 2) else gF v (w.1 / 2)) (pFol A y.2.1 &&& pEn A (w.1 % 2) (gK v (w.1 / 2))) (1000 * gC v (w.1 / 2) + 1) y.2.2 (pL A + 1) := by rw [← hw]
        have w3 : w.2.2.2 = y.2.2 - (1000 * gC v (w.1 / 2) + 1) := by rw [← hw]
        have ws : w.1 / 2 < gN v := by
          rcases Nat.lt_or_ge (w.1 / 2) (gN v) with q9 | q9
          · exact q9
          · exact absurd (avO_lt _ _ a2) (by omega)
        have hbs := hv.2.2 _ ws
        have hb8 : w.2.1 < 8 := by rw [w1]; split <;> omega
        rw [← w1, h2 _ j hb8 hj21] at hj2
        rw [← w2] at hj3
        cases eb : bR v A (gC v) (tgA A q) w.2.1 j with
        | none =>
          rw [eb] at hj2
          have hj2 : 100000000 + (1000 * gC v (w.1 / 2) + 1) = y.2.2 := hj2
          omega
        | some y9 =>
          have b3 := bR_n hv hA hb8 hj21 eb
          have b4 := bR_c hv hA (fun s hs => (hv.2.2 s hs).2.2.2.2) hb8 hj21 eb
          rw [eb] at hj2
          have hj2 : 1000 * y9.1 + y9.2 + (1000 * gC v (w.1 / 2) + 1) = y.2.2 := hj2
          have en : y9.2 = n := by omega
          have ec : y9.1 = c3 := by omega
          have en3 : n3 = n := by omega
          refine ⟨r1, r2, c3, j, hc3, by omega, by rw [r3, en3], by rw [r4, en3], hj21, hj3, ?_⟩
          rw [← ec, ← en, eb]
    · rw [if_neg b1] at hg; cases hg
theorem ga_M {v : Gr} {A : Pa} {q : Nat} (hv : wfG v) (hA : wfP A) (hu : auP A) {rs fr : Nat → Nat} (h1 : ∀ a i, a < 8 → i < 21 → rs (a * 21 + i) = enc 256 387072 (bR v A (gC v) (tgA A q) a i)) (h2 : ∀ a i, a < 8 → i < 21 → fr (21 * a + i) = enM (bR v A (gC v) (tgA A q) a i)) {x y : Wk} {N : Nat} (h : wkI v A q x y N) : ∀ n, n ≤ N → (gaI v A rs x n).1 = (gaM v A fr y n).1 ∧ wkI v A q (gaI v A rs x n).2 (gaM v A fr y n).2 (N - n)
  | 0, _ => ⟨rfl, h⟩
  | n + 1, hn => by
    obtain ⟨-, i2⟩ := ga_M hv hA hu h1 h2 h n (by omega)
    rw [show N - n = (N - (n + 1)) + 1 by omega] at i2
    obtain ⟨x', w, a1, a2, a3⟩ := i2.go hv hA hu h1 h2
    have l1 : gaI v A rs x (n + 1) = (some (10 * (w.1 / 2) + w.1 % 2), x') := by rw [gaI_s, a1]
    have l2 : gaM v A fr y (n + 1) = (some (10 * (w.1 / 2) + w.1 % 2), w.2) := gaM_s (x := y) (n := n) (g := (gaM v A fr y n).1) rfl a2
    rw [l1, l2]
    exact ⟨rfl, a3⟩
theorem eq_pathAt {z : Zs} (h : vG (zX z)) {p q i : Nat} (hp : p < gP (zG z)) (hq : q < gP (zG z)) : an_pathAt z p q i = am_pathAt z p q i := by
  have h8 : gP (zG z) ≤ 8 := h.1.1
  have hu := auP_rdF (zX z).2.2 (zX z).2.1
  have h1 : ∀ a i, a < 8 → i < 21 → (aFin (zG z) (vA (zX z)) q).2.2.1 (a * 21 + i) = enc 256 387072 (bR (zG z) (vA (zX z)) (gC (zG z)) (tgA (vA (zX z)) q) a i) := fun a i ha hi => aFin_eq h.1 h.2.1 (vA_sy _) h.2.2.1 hq ha hi
  have h2 : ∀ a i, a < 8 → i < 21 → frM z q (21 * a + i) = enM (bR (zG z) (vA (zX z)) (gC (zG z)) (tgA (vA (zX z)) q) a i) := fun a i ha hi => by
    unfold frM
    rw [if_pos (by omega), show (21 * a + i) / 21 = a by omega, show (21 * a + i) % 21 = i by omega, prM_0]
  have hg := gfm_M (v := zG z) (A := vA (zX z)) h.1 h.2.1 (vA_sy _) h.2.2.1 hp hq
  unfold an_pathAt am_pathAt gAt
  rw [hg]
  cases e : bM z p q with
  | none =>
    have e' : bR (zG z) (vA (zX z)) (prM (zG z) none) (tgA (vA (zX z)) q) p 0 = none := e
    rw [e']
    rfl
  | some y =>
    have e' : bR (zG z) (vA (zX z)) (prM (zG z) none) (tgA (vA (zX z)) q) p 0 = some y := e
    rw [e']
    show (if i < y.2 then (gaI (zG z) (vA (zX z)) (aFin (zG z) (vA (zX z)) q).2.2.1 (p, 1, (aFin (zG z) (vA (zX z)) q).2.2.1 (p * 21)) (i + 1)).1 else none) = (if i < y.2 then (gaM (zG z) (vA (zX z)) (frM z q) (p, 1, enM (some y)) (i + 1)).1 else none)
    by_cases c : i < y.2
    · rw [if_pos c, if_pos c]
      rw [prM_0] at e'
      have b1 := bR_n h.1 h.2.1 (by omega) (by decide) e'
      have b2 := bR_c h.1 h.2.1 (fun s hs => (h.1.2.2 s hs).2.2.2.2) (by omega) (by decide) e'
      have h3 := h1 p 0 (by omega) (by decide)
      rw [Nat.add_zero, e'] at h3
      have hI : wkI (zG z) (vA (zX z)) q (p, 1, (aFin (zG z) (vA (zX z)) q).2.2.1 (p * 21)) (p, 1, enM (some y)) y.2 := ⟨rfl, rfl, y.1, 0, b2, b1, h3, rfl, by decide, (by decide : (1 : Nat).testBit 0 = true), e'⟩
      exact (ga_M h.1 h.2.1 hu h1 h2 hI (i + 1) (by omega)).1
    · rw [if_neg c, if_neg c]
