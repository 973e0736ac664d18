/-! WHAT IS READ OF A PATTERN: its positions, its signs -/
def inB (L b : Nat) : Prop := ∀ t, b.testBit t = true → 1 ≤ t ∧ t ≤ L
theorem inB.or {L a b : Nat} (h1 : inB L a) (h2 : inB L b) : inB L (a ||| b) := fun t ht => by
  rw [Nat.testBit_or, Bool.or_eq_true] at ht
  exact ht.elim (h1 t) (h2 t)
theorem inB.z (L : Nat) : inB L 0 := fun t ht => by rw [Nat.zero_testBit] at ht; cases ht
theorem inB.up {L L' b : Nat} (h : inB L b) (hl : L ≤ L') : inB L' b := fun t ht => by have := h t ht; omega
theorem inB.pw (L : Nat) : inB (L + 1) (2 ^ (L + 1)) := fun t ht => by
  rw [Nat.testBit_two_pow, decide_eq_true_eq] at ht
  omega
theorem inB.ite {L a : Nat} {c : Prop} [Decidable c] (h : inB L a) : inB L (if c then a else 0) := by
  split
  · exact h
  · exact inB.z L
theorem inB.n {L b t : Nat} (h : inB L b) (ht : t = 0 ∨ L < t) : b.testBit t = false := by
  cases e : b.testBit t with
  | false => rfl
  | true => have := h t e; omega
def pcB (L : Nat) (x : Pc) : Prop := inB L x.1 ∧ inB L x.2.1
theorem pcB.O {L : Nat} {a b : Pc} (h1 : pcB L a) (h2 : pcB L b) : pcB L (rdO a b) := ⟨h1.1.or h2.1, h1.2.or h2.2⟩
theorem pcB.B {L : Nat} {part br : Pc} (h1 : pcB L part) (h2 : pcB L br) (c : Nat) : pcB L (rdB part br c) := ⟨h2.1.or h1.1.ite, h1.2.or h2.2.ite⟩
theorem pcB.up {L L' : Nat} {a : Pc} (h : pcB L a) (hl : L ≤ L') : pcB L' a := ⟨h.1.up hl, h.2.up hl⟩
/-- an automaton on the way -/
def aI0 (A : Pa) : Prop := (∀ i, inB (pL A) (pA A i)) ∧ (∀ i, (i = 0 ∨ pL A < i) → pA A i = 0) ∧ (∀ i k, (pB A i).testBit k = (pA A k).testBit i) ∧ (∀ k, inB (pL A) (pE A k)) ∧ pAc A = 1
theorem al_A (A : Pa) (las fir k i : Nat) : (pA (pAllow A las fir) k).testBit i = ((pA A k).testBit i || (las.testBit k && fir.testBit i)) := by
  show (if las.testBit k = true then pA A k ||| fir else pA A k).testBit i = _
  by_cases c : las.testBit k = true
  · rw [if_pos c, Nat.testBit_or, c, Bool.true_and]
  · rw [if_neg c, Bool.eq_false_iff.mpr c, Bool.false_and, Bool.or_false]
theorem al_B (A : Pa) (las fir k i : Nat) : (pB (pAllow A las fir) i).testBit k = ((pB A i).testBit k || (las.testBit k && fir.testBit i)) := by
  show (if fir.testBit i = true then pB A i ||| las else pB A i).testBit k = _
  by_cases c : fir.testBit i = true
  · rw [if_pos c, Nat.testBit_or, c, Bool.and_true]
  · rw [if_neg c, Bool.eq_false_iff.mpr c, Bool.and_false, Bool.or_false]
theorem al_sy {A : Pa} (h : ∀ i k, (pB A i).testBit k = (pA A k).testBit i) (las fir i k : Nat) : (pB (pAllow A las fir) i).testBit k = (pA (pAllow A las fir) k).testBit i := by
  rw [al_A, al_B, h]
theorem aI0.al {A : Pa} (h : aI0 A) {las fir : Nat} (h1 : inB (pL A) las) (h2 : inB (pL A) fir) : aI0 (pAllow A las fir) := by
  obtain ⟨a1, a2, a3, a4, a5⟩ := h
  refine ⟨fun i => ?_, fun i hi => ?_, al_sy a3 las fir, a4, a5⟩
  · show inB (pL A) (if las.testBit i = true then pA A i ||| fir else pA A i)
    split
    · exact (a1 i).or h2
    · exact a1 i
  · show (if las.testBit i = true then pA A i ||| fir else pA A i) = 0
    rw [h1.n hi, if_neg (by decide)]
    exact a2 i hi
theorem aI0.rdx {A : Pa} (h : aI0 A) {part br : Pc} (h1 : pcB (pL A) part) (h2 : pcB (pL A) br) (c : Nat) : aI0 (rdA A part br c) ∧ pL (rdA A part br c) = pL A ∧ pE (rdA A part br c) = pE A := by
  unfold rdA
  by_cases q : c = 42 ∨ c = 43
  · rw [if_pos q]
    exact ⟨aI0.al (A := pAllow A part.2.1 part.1) (h.al h1.2 h1.1) h2.2 h1.1, rfl, rfl⟩
  · rw [if_neg q]
    exact ⟨h.al h2.2 h1.1, rfl, rfl⟩
theorem aI0.place {A : Pa} (h : aI0 A) (c : Nat) : aI0 (pPlace A c) := by
  obtain ⟨a1, a2, a3, a4, a5⟩ := h
  refine ⟨fun i => (a1 i).up (Nat.le_succ _), fun i hi => a2 i (by have hi : i = 0 ∨ pL A + 1 < i := hi; omega), a3, fun k => ?_, a5⟩
  show inB (pL A + 1) (plf (pE A) c (2 ^ (pL A + 1)) 4 k)
  unfold plf
  split
  · exact ((a4 k).up (Nat.le_succ _)).or (inB.pw _)
  · exact (a4 k).up (Nat.le_succ _)
/-- the sign's number of a character -/
def sgO (c : Nat) : Nat := if 97 ≤ c ∧ c ≤ 100 then c - 97 else if 65 ≤ c ∧ c ≤ 68 then 4 + c - 65 else 8
def sgR (A : Pa) (sg : Nat → Nat) : Prop := ∀ s, 1 ≤ s → s ≤ pL A → sg s ≤ 8 ∧ ∀ k, k < 4 → ((pE A k).testBit s = true ↔ (sg s = k ∨ sg s = 8)) ∧ ((pE A (4 + k)).testBit s = true ↔ sg s = 4 + k)
theorem sgO_8 (c : Nat) : sgO c ≤ 8 := by
  unfold sgO
  split
  · omega
  · split <;> omega
theorem sgR.place {A : Pa} {sg : Nat → Nat} {c : Nat} (h : sgR A sg) (ha : ∀ k, inB (pL A) (pE A k)) (hc : peA c) : sgR (pPlace A c) (upF sg (pL A + 1) (sgO c)) := by
  intro s h1 h2
  have h2 : s ≤ pL A + 1 := h2
  have hb : ∀ j, (pE (pPlace A c) j).testBit s = true ↔ (pE A j).testBit s = true ∨ (((j < 4 ∧ j < 4 ∧ (c = 46 ∨ c = 97 + j)) ∨ (4 ≤ j ∧ j - 4 < 4 ∧ c = 65 + (j - 4))) ∧ s = pL A + 1) := fun j => by
    show (plf (pE A) c (2 ^ (pL A + 1)) 4 j).testBit s = true ↔ _
    unfold plf
    split
    · next q =>
      rw [Nat.testBit_or, Bool.or_eq_true, Nat.testBit_two_pow, decide_eq_true_eq]
      exact ⟨fun z => z.elim Or.inl (fun z => Or.inr ⟨q, z.symm⟩), fun z => z.elim Or.inl (fun z => Or.inr z.2.symm)⟩
    · next q => exact ⟨Or.inl, fun z => z.elim id (fun z => absurd z.1 q)⟩
  by_cases e : s = pL A + 1
  · subst e
    rw [upF_s]
    refine ⟨sgO_8 c, fun k hk => ?_⟩
    have z1 : (pE A k).testBit (pL A + 1) = false := (ha k).n (by omega)
    have z2 : (pE A (4 + k)).testBit (pL A + 1) = false := (ha (4 + k)).n (by omega)
    rw [hb, hb, z1, z2]
    unfold sgO
    constructor
    · constructor
      · rintro (q | ⟨q, -⟩)
        · cases q
        · split
          · omega
          · split <;> omega
      · intro q
        refine Or.inr ⟨?_, rfl⟩
        split at q
        · omega
        · split at q <;> omega
    · constructor
      · rintro (q | ⟨q, -⟩)
        · cases q
        · split
          · omega
          · split <;> omega
      · intro q
        refine Or.inr ⟨?_, rfl⟩
        split at q
        · omega
        · split at q <;> omega
  · rw [upF_n e]
    obtain ⟨q1, q2⟩ := h s h1 (by omega)
    refine ⟨q1, fun k hk => ?_⟩
    rw [hb, hb, ← (q2 k hk).1, ← (q2 k hk).2]
    exact ⟨⟨fun z => z.elim id (fun z => absurd z.2 e), Or.inl⟩, ⟨fun z => z.elim id (fun z => absurd z.2 e), Or.inl⟩⟩
theorem sgR.c {A B : Pa} {sg : Nat → Nat} (h : sgR A sg) (e1 : pL B = pL A) (e2 : pE B = pE A) : sgR B sg := by
  intro s h1 h2
  rw [e1] at h2
  rw [e2]
  exact h s h1 h2
def rI0 (x : Rs) : Prop := pL x.2.2.2 ≤ 20 ∧ x.1 ≤ 9 ∧ (∀ i, pcB (pL x.2.2.2) (x.2.1 i)) ∧ (∀ i, pcB (pL x.2.2.2) (x.2.2.1 i)) ∧ aI0 x.2.2.2
theorem pcB.z (L : Nat) (b : Bool) : pcB L (0, 0, b) := ⟨inB.z L, inB.z L⟩
theorem pcB.uf {L k : Nat} {f : Nat → Pc} {x : Pc} (h : ∀ i, pcB L (f i)) (hx : pcB L x) : ∀ i, pcB L (upF f k x i) := fun i => by
  unfold upF
  split
  · exact hx
  · exact h i
theorem rI0.S {x : Rs} (h : rI0 x) (c nx : Nat) : rI0 (rdS c nx x) := by
  obtain ⟨h1, h2, h3, h4, h5⟩ := h
  unfold rdS
  split
  · next q =>
    have hp := h5.place c
    have hb : pcB (pL (pPlace x.2.2.2 c)) (2 ^ (pL x.2.2.2 + 1), 2 ^ (pL x.2.2.2 + 1), false) := ⟨inB.pw _, inB.pw _⟩
    have h4' : ∀ i, pcB (pL (pPlace x.2.2.2 c)) (x.2.2.1 i) := fun i => (h4 i).up (Nat.le_succ _)
    obtain ⟨r1, r2, r3⟩ := hp.rdx hb (h4' x.1) nx
    refine ⟨by show pL (rdA _ _ _ _) ≤ 20; rw [r2]; show pL x.2.2.2 + 1 ≤ 20; omega, h2, fun i => ?_, ?_, r1⟩
    · show pcB (pL (rdA _ _ _ _)) _
      rw [r2]; exact (h3 i).up (Nat.le_succ _)
    · show ∀ i, pcB (pL (rdA _ _ _ _)) _
      rw [r2]
      exact pcB.uf h4' (hb.B (h4' x.1) nx)
  · split
    · next q => exact ⟨h1, by show x.1 + 1 ≤ 9; omega, pcB.uf h3 (pcB.z _ _), pcB.uf h4 (pcB.z _ _), h5⟩
    · split
      · next q =>
        obtain ⟨r1, r2, r3⟩ := h5.rdx ((h3 x.1).O (h4 x.1)) (h4 (x.1 - 1)) nx
        refine ⟨by show pL (rdA _ _ _ _) ≤ 20; rw [r2]; exact h1, by show x.1 - 1 ≤ 9; omega, fun i => ?_, ?_, r1⟩
        · show pcB (pL (rdA _ _ _ _)) _
          rw [r2]; exact h3 i
        · show ∀ i, pcB (pL (rdA _ _ _ _)) _
          rw [r2]
          exact pcB.uf h4 (((h3 x.1).O (h4 x.1)).B (h4 (x.1 - 1)) nx)
      · split
        · exact ⟨h1, h2, pcB.uf h3 ((h3 x.1).O (h4 x.1)), pcB.uf h4 (pcB.z _ _), h5⟩
        · exact ⟨h1, h2, h3, h4, h5⟩
theorem rI0.K (ch : Nat → Nat) (n : Nat) : ∀ i, rI0 (rdK ch n i)
  | 0 => by
    have hz : ∀ i, inB 0 ((fun _ => 0 : Nat → Nat) i) := fun i => inB.z 0
    refine ⟨Nat.zero_le _, Nat.zero_le _, fun i => pcB.z _ _, fun i => pcB.z _ _, hz, fun _ _ => rfl, fun i k => ?_, hz, rfl⟩
    show (0 : Nat).testBit k = (0 : Nat).testBit i
    rw [Nat.zero_testBit, Nat.zero_testBit]
  | i + 1 => by
    have h := rI0.K ch n i
    have h2 : rI0 (rdG (rdK ch n i)) := h
    exact h2.S _ _
/-- what a read pattern is like -/
def auP (A : Pa) : Prop := pL A ≤ 20 ∧ (∀ i, inB (pL A) (pA A i)) ∧ (∀ i, pL A < i → pA A i = 0) ∧ syP A ∧ (∀ k, inB (pL A) (pE A k)) ∧ ∀ t, (pAc A).testBit t = true → t ≤ pL A
theorem rdW_B (ch : Nat → Nat) (n : Nat) : pcB (pL (rdX ch n).2.2.2) (rdW ch n) := by
  obtain ⟨h1, h2, h3, h4, h5⟩ := rI0.K ch n (min n 40)
  exact (h3 _).O (h4 _)
theorem auP_rdF (ch : Nat → Nat) (n : Nat) : auP (rdF ch n) := by
  have hk := rI0.K ch n (min n 40)
  have hw := rdW_B ch n
  obtain ⟨h1, h2, h3, h4, h5⟩ := hk
  obtain ⟨a1, a2, a3, a4, a5⟩ := h5
  refine ⟨h1, fun i => ?_, fun i hi => ?_, fun i k _ _ => al_sy a3 1 _ i k, a4, fun t ht => ?_⟩
  · show inB (pL (rdX ch n).2.2.2) (if (1 : Nat).testBit i = true then pA (rdX ch n).2.2.2 i ||| (rdW ch n).1 else pA (rdX ch n).2.2.2 i)
    split
    · exact (a1 i).or hw.1
    · exact a1 i
  · have hi : pL (rdX ch n).2.2.2 < i := hi
    show (if (1 : Nat).testBit i = true then pA (rdX ch n).2.2.2 i ||| (rdW ch n).1 else pA (rdX ch n).2.2.2 i) = 0
    have e : ¬ (1 : Nat).testBit i = true := fun q => by
      have := bit_lt (show 1 < 2 ^ 1 by decide) q
      omega
    rw [if_neg e]
    exact a2 i (Or.inr hi)
  · have ht : ((rdW ch n).2.1 ||| (if (rdW ch n).2.2 = true then 1 else 0)).testBit t = true := ht
    rw [Nat.testBit_or, Bool.or_eq_true] at ht
    show t ≤ pL (rdX ch n).2.2.2
    rcases ht with ht | ht
    · exact (hw.2 t ht).2
    · split at ht
      · have := bit_lt (show 1 < 2 ^ 1 by decide) ht
        omega
      · rw [Nat.zero_testBit] at ht; cases ht
theorem rdF_L (ch : Nat → Nat) (n : Nat) : pL (rdF ch n) = pL (rdX ch n).2.2.2 := rfl
theorem rdF_E (ch : Nat → Nat) (n : Nat) : pE (rdF ch n) = pE (rdX ch n).2.2.2 := rfl
theorem rdF_A0 (ch : Nat → Nat) (n : Nat) : pA (rdF ch n) 0 = (rdW ch n).1 := by
  obtain ⟨h1, h2, h3, h4, a1, a2, a3⟩ := rI0.K ch n (min n 40)
  show (if (1 : Nat).testBit 0 = true then pA (rdX ch n).2.2.2 0 ||| (rdW ch n).1 else pA (rdX ch n).2.2.2 0) = _
  rw [if_pos (by decide), show pA (rdX ch n).2.2.2 0 = 0 from a2 0 (Or.inl rfl), Nat.zero_or]
theorem rdF_As (ch : Nat → Nat) (n s : Nat) (h : 1 ≤ s) : pA (rdF ch n) s = pA (rdX ch n).2.2.2 s := by
  show (if (1 : Nat).testBit s = true then pA (rdX ch n).2.2.2 s ||| (rdW ch n).1 else pA (rdX ch n).2.2.2 s) = _
  rw [if_neg (fun q => by
    have := bit_lt (show 1 < 2 ^ 1 by decide) q
    omega)]
theorem rdF_Ac (ch : Nat → Nat) (n : Nat) : pAc (rdF ch n) = (rdW ch n).2.1 ||| (if (rdW ch n).2.2 = true then 1 else 0) := rfl
/-- what comes behind some positions, summed over as many as there are -/
theorem pFol_L {A : Pa} (h : auP A) (ps : Nat) : pFol A ps = orF (pA A) ps (pL A + 1) := by
  refine Nat.eq_of_testBit_eq (fun t => ?_)
  have h1 : (pFol A ps).testBit t = true ↔ (orF (pA A) ps (pL A + 1)).testBit t = true := by
    rw [pFol_bit, orF_bit]
    constructor
    · rintro ⟨i, q1, q2, q3⟩
      refine ⟨i, ?_, q2, q3⟩
      rcases Nat.lt_or_ge (pL A) i with q | q
      · rw [h.2.2.1 i q, Nat.zero_testBit] at q3; cases q3
      · omega
    · rintro ⟨i, q1, q2, q3⟩
      exact ⟨i, by have := h.1; omega, q2, q3⟩
  cases e : (pFol A ps).testBit t with
  | true => exact (h1.mp e).symm
  | false =>
    cases e2 : (orF (pA A) ps (pL A + 1)).testBit t with
    | false => rfl
    | true => rw [h1.mpr e2] at e; cases e
