/-! WALKS OVER (person, position), by what the pattern allows; the best one by cost, then by goings -/
def eR (v : Gr) (A : Pa) (pr : Nat → Nat) (a i b j c : Nat) : Prop := ∃ s, s < gN v ∧ pr s = c ∧ 0 < c ∧ ((gF v s = a ∧ gT v s = b ∧ (pA A i &&& pEn A 0 (gK v s)).testBit j = true) ∨ (gT v s = a ∧ gF v s = b ∧ (pA A i &&& pEn A 1 (gK v s)).testBit j = true))
/-- walks to the states of T -/
def fR (v : Gr) (A : Pa) (pr : Nat → Nat) (T : Nat → Nat → Prop) : Nat → Nat → Nat → Nat → Prop
  | 0, c, a, i => c = 0 ∧ T a i
  | n + 1, c, a, i => ∃ b j c1 c2, c = c1 + c2 ∧ eR v A pr a i b j c1 ∧ fR v A pr T n c2 b j
/-- walks from p at the beginning -/
def rR (v : Gr) (A : Pa) (pr : Nat → Nat) (p : Nat) : Nat → Nat → Nat → Nat → Prop
  | 0, c, b, j => c = 0 ∧ b = p ∧ j = 0
  | n + 1, c, b, j => ∃ a i c1 c2, c = c1 + c2 ∧ rR v A pr p n c1 a i ∧ eR v A pr a i b j c2
theorem fR_s (v : Gr) (A : Pa) (pr : Nat → Nat) (T : Nat → Nat → Prop) (n c a i : Nat) : fR v A pr T (n + 1) c a i ↔ ∃ b j c1 c2, c = c1 + c2 ∧ eR v A pr a i b j c1 ∧ fR v A pr T n c2 b j := Iff.rfl
theorem rR_s (v : Gr) (A : Pa) (pr : Nat → Nat) (p n c b j : Nat) : rR v A pr p (n + 1) c b j ↔ ∃ a i c1 c2, c = c1 + c2 ∧ rR v A pr p n c1 a i ∧ eR v A pr a i b j c2 := Iff.rfl
def wfE (v : Gr) (A : Pa) : Prop := wfG v ∧ wfP A
theorem bit_lt {x n j : Nat} (h : x < 2 ^ n) (hb : x.testBit j = true) : j < n := by
  rcases Nat.lt_or_ge j n with q | q
  · exact q
  · rw [Nat.testBit_lt_two_pow (Nat.lt_of_lt_of_le h (Nat.pow_le_pow_right (by decide) q))] at hb
    cases hb
theorem eR_b {v : Gr} {A : Pa} {pr : Nat → Nat} {a i b j c : Nat} (hv : wfG v) (hA : wfP A) (h : eR v A pr a i b j c) : a < 8 ∧ b < 8 ∧ j < 21 ∧ 0 < c := by
  obtain ⟨s, hs, h1, h2, h3⟩ := h
  obtain ⟨q1, q2, q3, q4, q5⟩ := hv.2.2 s hs
  rcases h3 with ⟨h3, h4, h5⟩ | ⟨h3, h4, h5⟩
  · refine ⟨by omega, by omega, ?_, h2⟩
    rw [Nat.testBit_and, Bool.and_eq_true] at h5
    exact bit_lt (hA.2.2.2.1 _ (by omega)) h5.2
  · refine ⟨by omega, by omega, ?_, h2⟩
    rw [Nat.testBit_and, Bool.and_eq_true] at h5
    exact bit_lt (hA.2.2.2.1 _ (by omega)) h5.2
theorem eR_pr {v : Gr} {A : Pa} {pr pr' : Nat → Nat} {a i b j c : Nat} (h : eR v A pr a i b j c) (e : ∀ s, s < gN v → pr' s = pr s) : eR v A pr' a i b j c := by
  obtain ⟨s, hs, h1, h2⟩ := h
  exact ⟨s, hs, (e s hs).trans h1, h2⟩
theorem fR_mono {v v' : Gr} {A A' : Pa} {pr pr' : Nat → Nat} {T T' : Nat → Nat → Prop} (he : ∀ a i b j c, eR v A pr a i b j c → eR v' A' pr' a i b j c) (hT : ∀ a i, T a i → T' a i) : ∀ n c a i, fR v A pr T n c a i → fR v' A' pr' T' n c a i
  | 0, _, _, _, h => ⟨h.1, hT _ _ h.2⟩
  | n + 1, c, a, i, h => by
    obtain ⟨b, j, c1, c2, h1, h2, h3⟩ := h
    exact ⟨b, j, c1, c2, h1, he _ _ _ _ _ h2, fR_mono he hT n c2 b j h3⟩
/-- from the front and from the back it is the same -/
def midR (v : Gr) (A : Pa) (pr : Nat → Nat) (T : Nat → Nat → Prop) (p n m c : Nat) : Prop := ∃ a i c1 c2, c = c1 + c2 ∧ rR v A pr p n c1 a i ∧ fR v A pr T m c2 a i
theorem midR_s (v : Gr) (A : Pa) (pr : Nat → Nat) (T : Nat → Nat → Prop) (p n m c : Nat) : midR v A pr T p (n + 1) m c ↔ midR v A pr T p n (m + 1) c := by
  constructor
  · rintro ⟨b, j, c1, c2, h1, ⟨a, i, d1, d2, h2, h3, h4⟩, h5⟩
    exact ⟨a, i, d1, d2 + c2, by omega, h3, b, j, d2, c2, rfl, h4, h5⟩
  · rintro ⟨a, i, c1, c2, h1, h2, b, j, d1, d2, h3, h4, h5⟩
    exact ⟨b, j, c1 + d1, d2, by omega, ⟨a, i, c1, d1, rfl, h2, h4⟩, h5⟩
theorem midR_0 (v : Gr) (A : Pa) (pr : Nat → Nat) (T : Nat → Nat → Prop) (p c : Nat) : ∀ n m, midR v A pr T p n m c ↔ midR v A pr T p 0 (n + m) c
  | 0, m => by rw [Nat.zero_add]
  | n + 1, m => by rw [midR_s, midR_0 v A pr T p c n (m + 1)]; rw [show n + (m + 1) = n + 1 + m by omega]
theorem rf_iff (v : Gr) (A : Pa) (pr : Nat → Nat) (T : Nat → Nat → Prop) (p n c : Nat) : (∃ a i, rR v A pr p n c a i ∧ T a i) ↔ fR v A pr T n c p 0 := by
  have h := midR_0 v A pr T p c n 0
  rw [Nat.add_zero] at h
  constructor
  · rintro ⟨a, i, h1, h2⟩
    obtain ⟨a', i', c1, c2, h3, ⟨h4, h5, h6⟩, h7⟩ := h.mp ⟨a, i, c, 0, by omega, h1, rfl, h2⟩
    subst h4 h5 h6
    rw [show c = c2 by omega]; exact h7
  · intro h1
    obtain ⟨a, i, c1, c2, h3, h4, h5, h6⟩ := h.mpr ⟨p, 0, 0, c, by omega, ⟨rfl, rfl, rfl⟩, h1⟩
    exact ⟨a, i, by rw [show c = c1 by omega]; exact h4, h6⟩
/-! the least -/
theorem least_ex (P : Nat → Prop) : ∀ n, P n → ∃ m, P m ∧ ∀ k, P k → m ≤ k := by
  intro n
  induction n using Nat.strongRecOn with
  | ind n ih =>
    intro hn
    rcases Classical.em (∃ k, k < n ∧ P k) with ⟨k, h1, h2⟩ | h
    · exact ih k h1 h2
    · exact ⟨n, hn, fun k hk => by
        rcases Nat.lt_or_ge k n with q | q
        · exact absurd ⟨k, q, hk⟩ h
        · exact q⟩
/-- x is the best of P: the least cost, of that the least number of goings -/
def isL (P : Nat → Nat → Prop) (x : Option (Nat × Nat)) : Prop := match x with
  | none => ∀ n c, ¬ P n c
  | some y => P y.2 y.1 ∧ ∀ n c, P n c → y.1 < c ∨ (y.1 = c ∧ y.2 ≤ n)
theorem isL_ex (P : Nat → Nat → Prop) : ∃ x, isL P x := by
  rcases Classical.em (∃ c, ∃ n, P n c) with ⟨c0, h0⟩ | h
  · obtain ⟨c, ⟨n0, hn0⟩, hc⟩ := least_ex (fun c => ∃ n, P n c) c0 h0
    obtain ⟨n, hn, hm⟩ := least_ex (fun n => P n c) n0 hn0
    refine ⟨some (c, n), hn, fun n' c' h' => ?_⟩
    show c < c' ∨ (c = c' ∧ n ≤ n')
    have h1 := hc c' ⟨n', h'⟩
    rcases Nat.lt_or_ge c c' with q | q
    · exact Or.inl q
    · have e : c = c' := by omega
      subst e
      exact Or.inr ⟨rfl, hm n' h'⟩
  · exact ⟨none, fun n c q => h ⟨c, n, q⟩⟩
theorem isL_un {P : Nat → Nat → Prop} {x y : Option (Nat × Nat)} (hx : isL P x) (hy : isL P y) : x = y := by
  cases x with
  | none =>
    cases y with
    | none => rfl
    | some y => exact absurd hy.1 (hx _ _)
  | some x =>
    cases y with
    | none => exact absurd hx.1 (hy _ _)
    | some y =>
      have h1 := hx.2 _ _ hy.1
      have h2 := hy.2 _ _ hx.1
      have e1 : x.1 = y.1 := by omega
      have e2 : x.2 = y.2 := by omega
      rw [show x = (x.1, x.2) from rfl, show y = (y.1, y.2) from rfl, e1, e2]
noncomputable def bR (v : Gr) (A : Pa) (pr : Nat → Nat) (T : Nat → Nat → Prop) (a i : Nat) : Option (Nat × Nat) := Classical.choose (isL_ex (fun n c => fR v A pr T n c a i))
theorem bR_is (v : Gr) (A : Pa) (pr : Nat → Nat) (T : Nat → Nat → Prop) (a i : Nat) : isL (fun n c => fR v A pr T n c a i) (bR v A pr T a i) := Classical.choose_spec (isL_ex (fun n c => fR v A pr T n c a i))
theorem bR_some {v : Gr} {A : Pa} {pr : Nat → Nat} {T : Nat → Nat → Prop} {a i : Nat} {y : Nat × Nat} (h : bR v A pr T a i = some y) : fR v A pr T y.2 y.1 a i ∧ ∀ n c, fR v A pr T n c a i → y.1 < c ∨ (y.1 = c ∧ y.2 ≤ n) := by
  have h1 := bR_is v A pr T a i
  rw [h] at h1
  exact h1
theorem bR_none {v : Gr} {A : Pa} {pr : Nat → Nat} {T : Nat → Nat → Prop} {a i : Nat} (h : bR v A pr T a i = none) (n c : Nat) : ¬ fR v A pr T n c a i := by
  have h1 := bR_is v A pr T a i
  rw [h] at h1
  exact h1 n c
theorem bR_eq {v : Gr} {A : Pa} {pr : Nat → Nat} {T : Nat → Nat → Prop} {a i : Nat} {x : Option (Nat × Nat)} (h : isL (fun n c => fR v A pr T n c a i) x) : bR v A pr T a i = x := isL_un (bR_is v A pr T a i) h
theorem bR_congr {v v' : Gr} {A A' : Pa} {pr pr' : Nat → Nat} {T T' : Nat → Nat → Prop} {a i a' i' : Nat} (h : ∀ n c, fR v A pr T n c a i ↔ fR v' A' pr' T' n c a' i') : bR v A pr T a i = bR v' A' pr' T' a' i' := by
  refine bR_eq ?_
  have h1 := bR_is v' A' pr' T' a' i'
  cases e : bR v' A' pr' T' a' i' with
  | none => exact fun n c q => bR_none e n c ((h n c).mp q)
  | some y =>
    obtain ⟨h2, h3⟩ := bR_some e
    exact ⟨(h _ _).mpr h2, fun n c q => h3 n c ((h n c).mp q)⟩
/-- what lies behind the first going of a best walk is best -/
theorem bR_tail {v : Gr} {A : Pa} {pr : Nat → Nat} {T : Nat → Nat → Prop} {a i c n : Nat} (h : bR v A pr T a i = some (c, n + 1)) : ∃ b j c1 c2, c = c1 + c2 ∧ eR v A pr a i b j c1 ∧ bR v A pr T b j = some (c2, n) := by
  obtain ⟨⟨b, j, c1, c2, h1, h2, h3⟩, h4⟩ := bR_some h
  have h1 : c = c1 + c2 := h1
  have h3 : fR v A pr T n c2 b j := h3
  refine ⟨b, j, c1, c2, h1, h2, bR_eq ⟨h3, fun m d hm => ?_⟩⟩
  have h5 : c < c1 + d ∨ (c = c1 + d ∧ n + 1 ≤ m + 1) := h4 (m + 1) (c1 + d) ⟨b, j, c1, d, rfl, h2, hm⟩
  show c2 < d ∨ (c2 = d ∧ n ≤ m)
  omega
/-! counting -/
def cntB (f : Nat → Bool) : Nat → Nat
  | 0 => 0
  | n + 1 => cntB f n + (if f n = true then 1 else 0)
theorem cntB_le (f : Nat → Bool) : ∀ n, cntB f n ≤ n
  | 0 => Nat.le_refl _
  | n + 1 => by
    have := cntB_le f n
    unfold cntB
    split <;> omega
theorem cntB_mono {f g : Nat → Bool} (h : ∀ x, f x = true → g x = true) : ∀ n, cntB f n ≤ cntB g n
  | 0 => Nat.le_refl _
  | n + 1 => by
    have := cntB_mono h n
    unfold cntB
    by_cases q : f n = true
    · rw [if_pos q, if_pos (h n q)]; omega
    · rw [if_neg q]; omega
theorem cntB_lt {f g : Nat → Bool} (h : ∀ x, f x = true → g x = true) {k : Nat} (h1 : ¬ f k = true) (h2 : g k = true) : ∀ n, k < n → cntB f n + 1 ≤ cntB g n
  | 0, q => absurd q (Nat.not_lt_zero _)
  | n + 1, q => by
    unfold cntB
    by_cases e : k = n
    · subst e
      rw [if_neg h1, if_pos h2]
      have := cntB_mono h k
      omega
    · have := cntB_lt h h1 h2 n (by omega)
      by_cases c : f n = true
      · rw [if_pos c, if_pos (h n c)]; omega
      · rw [if_neg c]; omega
def lenB (x : Option (Nat × Nat)) (j : Nat) : Bool := match x with
  | none => false
  | some y => decide (y.2 < j)
theorem bR_cnt {v : Gr} {A : Pa} {pr : Nat → Nat} {T : Nat → Nat → Prop} (hv : wfG v) (hA : wfP A) : ∀ (n a i c : Nat), a < 8 → i < 21 → bR v A pr T a i = some (c, n) → n + 1 ≤ cntB (fun x => lenB (bR v A pr T (x / 21) (x % 21)) (n + 1)) 168
  | 0, a, i, c, ha, hi, h => by
    have h1 := cntB_lt (f := fun _ => false) (g := fun x => lenB (bR v A pr T (x / 21) (x % 21)) 1) (fun _ q => Bool.noConfusion q) (k := a * 21 + i) (fun q => Bool.noConfusion q)
      (by
        show lenB (bR v A pr T ((a * 21 + i) / 21) ((a * 21 + i) % 21)) 1 = true
        rw [show (a * 21 + i) / 21 = a by omega, show (a * 21 + i) % 21 = i by omega, h]
        rfl) 168 (by omega)
    show 0 + 1 ≤ cntB (fun x => lenB (bR v A pr T (x / 21) (x % 21)) 1) 168
    omega
  | n + 1, a, i, c, ha, hi, h => by
    obtain ⟨b, j, c1, c2, h1, h2, h3⟩ := bR_tail h
    obtain ⟨q1, q2, q3, q4⟩ := eR_b hv hA h2
    have ih := bR_cnt hv hA n b j c2 q2 q3 h3
    have h4 := cntB_lt (f := fun x => lenB (bR v A pr T (x / 21) (x % 21)) (n + 1)) (g := fun x => lenB (bR v A pr T (x / 21) (x % 21)) (n + 2))
      (fun x q => by
        cases e : bR v A pr T (x / 21) (x % 21) with
        | none => rw [e] at q; exact q
        | some y =>
          rw [e] at q
          have q : decide (y.2 < n + 1) = true := q
          show decide (y.2 < n + 2) = true
          exact decide_eq_true (by have := of_decide_eq_true q; omega)) (k := a * 21 + i)
      (by
        show ¬ lenB (bR v A pr T ((a * 21 + i) / 21) ((a * 21 + i) % 21)) (n + 1) = true
        rw [show (a * 21 + i) / 21 = a by omega, show (a * 21 + i) % 21 = i by omega, h]
        show ¬ decide (n + 1 < n + 1) = true
        rw [decide_eq_false (by omega)]
        exact Bool.noConfusion)
      (by
        show lenB (bR v A pr T ((a * 21 + i) / 21) ((a * 21 + i) % 21)) (n + 2) = true
        rw [show (a * 21 + i) / 21 = a by omega, show (a * 21 + i) % 21 = i by omega, h]
        exact decide_eq_true (by show n + 1 < n + 2; omega)) 168 (by omega)
    show n + 1 + 1 ≤ cntB (fun x => lenB (bR v A pr T (x / 21) (x % 21)) (n + 2)) 168
    omega
theorem bR_cost {v : Gr} {A : Pa} {pr : Nat → Nat} {T : Nat → Nat → Prop} (hpr : ∀ s, s < gN v → pr s ≤ 9) : ∀ (n a i c : Nat), fR v A pr T n c a i → c ≤ 9 * n
  | 0, a, i, c, h => by have := h.1; omega
  | n + 1, a, i, c, h => by
    obtain ⟨b, j, c1, c2, h1, ⟨s, hs, h2, h3⟩, h4⟩ := h
    have ih := bR_cost hpr n b j c2 h4
    have := hpr s hs
    omega
theorem bR_n {v : Gr} {A : Pa} {pr : Nat → Nat} {T : Nat → Nat → Prop} {a i : Nat} {y : Nat × Nat} (hv : wfG v) (hA : wfP A) (ha : a < 8) (hi : i < 21) (h : bR v A pr T a i = some y) : y.2 ≤ 167 := by
  have h1 := bR_cnt hv hA y.2 a i y.1 ha hi h
  have h2 := cntB_le (fun x => lenB (bR v A pr T (x / 21) (x % 21)) (y.2 + 1)) 168
  omega
theorem bR_c {v : Gr} {A : Pa} {pr : Nat → Nat} {T : Nat → Nat → Prop} {a i : Nat} {y : Nat × Nat} (hv : wfG v) (hA : wfP A) (hpr : ∀ s, s < gN v → pr s ≤ 9) (ha : a < 8) (hi : i < 21) (h : bR v A pr T a i = some y) : y.1 ≤ 1503 := by
  have h1 := bR_n hv hA ha hi h
  have h2 := bR_cost hpr _ _ _ _ (bR_some h).1
  omega
/-! a table that is sound and closed holds the best -/
theorem tab_le {v : Gr} {A : Pa} {pr : Nat → Nat} {T : Nat → Nat → Prop} {U X : Nat} {f : Nat → Nat → Nat} (hv : wfG v) (hA : wfP A) (hb : ∀ a i, a < 8 → i < 21 → T a i → f a i = 0) (hc : ∀ a i b j c, a < 8 → i < 21 → eR v A pr a i b j c → f b j < X → f a i ≤ f b j + U * c + 1) : ∀ (n c a i : Nat), a < 8 → i < 21 → fR v A pr T n c a i → U * c + n < X → f a i ≤ U * c + n
  | 0, c, a, i, ha, hi, h, hx => by rw [hb a i ha hi h.2]; exact Nat.zero_le _
  | n + 1, c, a, i, ha, hi, h, hx => by
    obtain ⟨b, j, c1, c2, h1, h2, h3⟩ := h
    obtain ⟨q1, q2, q3, q4⟩ := eR_b hv hA h2
    have e : U * c = U * c1 + U * c2 := by rw [h1, Nat.mul_add]
    have h4 := tab_le hv hA hb hc n c2 b j q2 q3 h3 (by omega)
    have h5 := hc _ _ _ _ _ ha hi h2 (by omega)
    omega
def enc (U X : Nat) (x : Option (Nat × Nat)) : Nat := match x with
  | none => X
  | some y => U * y.1 + y.2
theorem tab_eq {v : Gr} {A : Pa} {pr : Nat → Nat} {T : Nat → Nat → Prop} {U X : Nat} {f : Nat → Nat → Nat} (hv : wfG v) (hA : wfP A) (hpr : ∀ s, s < gN v → pr s ≤ 9) (hU : 168 ≤ U) (hX : U * 1503 + 167 < X) (hb : ∀ a i, a < 8 → i < 21 → T a i → f a i = 0) (hc : ∀ a i b j c, a < 8 → i < 21 → eR v A pr a i b j c → f b j < X → f a i ≤ f b j + U * c + 1)
    {a i : Nat} (ha : a < 8) (hi : i < 21) (hle : f a i ≤ X) (hs : f a i < X → ∃ n c, fR v A pr T n c a i ∧ f a i = U * c + n) : f a i = enc U X (bR v A pr T a i) := by
  cases e : bR v A pr T a i with
  | none =>
    show f a i = X
    rcases Nat.lt_or_ge (f a i) X with q | q
    · obtain ⟨n, c, h1, -⟩ := hs q
      exact absurd h1 (bR_none e n c)
    · omega
  | some y =>
    show f a i = U * y.1 + y.2
    have h1 := bR_n hv hA ha hi e
    have h2 := bR_c hv hA hpr ha hi e
    obtain ⟨h3, h4⟩ := bR_some e
    have h5 : U * y.1 ≤ U * 1503 := Nat.mul_le_mul_left _ h2
    have h6 := tab_le hv hA hb hc _ _ _ _ ha hi h3 (by omega)
    obtain ⟨n, c, h7, h8⟩ := hs (by omega)
    have h9 := h4 n c h7
    rcases h9 with h9 | ⟨h9, h10⟩
    · have h11 : U * (y.1 + 1) ≤ U * c := Nat.mul_le_mul_left _ h9
      rw [Nat.mul_add, Nat.mul_one] at h11
      omega
    · rw [← h9] at h8
      omega
/-- the persons of all steps are there -/
def inP (v : Gr) : Prop := ∀ s, s < gN v → gF v s < gP v ∧ gT v s < gP v
