/-! BestPath.aimAt FINDS WHAT IS LEFT -/
/-- before tells what after tells -/
def syP (A : Pa) : Prop := ∀ i k, i < 21 → k < 21 → (pB A i).testBit k = (pA A k).testBit i
theorem ofS_r (u pl val : Nat) (x : (Nat → Nat) × Nat) (k : Nat) : ∀ n, (ofS u pl val n x).1 k = if ∃ i, i < n ∧ k = u * 21 + i ∧ pl.testBit i = true ∧ val < x.1 k then val else x.1 k
  | 0 => by rw [if_neg (fun ⟨i, q, _⟩ => absurd q (Nat.not_lt_zero _))]; rfl
  | n + 1 => by
    have ih := ofS_r u pl val x k n
    have ihn : (ofS u pl val n x).1 (u * 21 + n) = x.1 (u * 21 + n) := by
      rw [ofS_r u pl val x (u * 21 + n) n, if_neg]
      rintro ⟨i, h1, h2, -⟩
      omega
    unfold ofS
    by_cases c : pl.testBit n = true ∧ val < (ofS u pl val n x).1 (u * 21 + n)
    · rw [if_pos c]
      rw [ihn] at c
      show (if k = u * 21 + n then val else (ofS u pl val n x).1 k) = _
      by_cases e : k = u * 21 + n
      · rw [if_pos e, if_pos ⟨n, Nat.lt_succ_self n, e, c.1, by rw [e]; exact c.2⟩]
      · rw [if_neg e, ih]
        by_cases d : ∃ i, i < n ∧ k = u * 21 + i ∧ pl.testBit i = true ∧ val < x.1 k
        · obtain ⟨i, h1, h2⟩ := d
          rw [if_pos ⟨i, h1, h2⟩, if_pos ⟨i, by omega, h2⟩]
        · rw [if_neg d, if_neg]
          rintro ⟨i, h1, h2, h3⟩
          exact d ⟨i, by omega, h2, h3⟩
    · rw [if_neg c, ih]
      rw [ihn] at c
      by_cases d : ∃ i, i < n ∧ k = u * 21 + i ∧ pl.testBit i = true ∧ val < x.1 k
      · obtain ⟨i, h1, h2⟩ := d
        rw [if_pos ⟨i, h1, h2⟩, if_pos ⟨i, by omega, h2⟩]
      · rw [if_neg d, if_neg]
        rintro ⟨i, h1, h2, h3, h4⟩
        by_cases e : i = n
        · subst e; exact c ⟨h3, by rw [← h2]; exact h4⟩
        · exact d ⟨i, by omega, h2, h3, h4⟩
theorem ofS_b (u pl val : Nat) (x : (Nat → Nat) × Nat) (t : Nat) : ∀ n, (ofS u pl val n x).2.testBit t = true ↔ x.2.testBit t = true ∨ (t < n ∧ pl.testBit t = true ∧ val < x.1 (u * 21 + t))
  | 0 => ⟨Or.inl, fun q => q.elim id (fun q => absurd q.1 (Nat.not_lt_zero _))⟩
  | n + 1 => by
    have ih := ofS_b u pl val x t n
    have ihn : (ofS u pl val n x).1 (u * 21 + n) = x.1 (u * 21 + n) := by
      rw [ofS_r u pl val x (u * 21 + n) n, if_neg]
      rintro ⟨i, h1, h2, -⟩
      omega
    unfold ofS
    by_cases c : pl.testBit n = true ∧ val < (ofS u pl val n x).1 (u * 21 + n)
    · rw [if_pos c]
      rw [ihn] at c
      show ((ofS u pl val n x).2 ||| 2 ^ n).testBit t = true ↔ _
      rw [Nat.testBit_or, Bool.or_eq_true, ih, Nat.testBit_two_pow, decide_eq_true_eq]
      constructor
      · rintro ((h | h) | h)
        · exact Or.inl h
        · exact Or.inr ⟨by omega, h.2⟩
        · subst h; exact Or.inr ⟨Nat.lt_succ_self _, c⟩
      · rintro (h | h)
        · exact Or.inl (Or.inl h)
        · by_cases e : n = t
          · exact Or.inr e
          · exact Or.inl (Or.inr ⟨by omega, h.2⟩)
    · rw [if_neg c, ih]
      rw [ihn] at c
      constructor
      · rintro (h | h)
        · exact Or.inl h
        · exact Or.inr ⟨by omega, h.2⟩
      · rintro (h | h)
        · exact Or.inl h
        · by_cases e : t = n
          · subst e; exact absurd h.2 c
          · exact Or.inr ⟨by omega, h.2⟩
/-- the table as persons and positions -/
abbrev rsA (x : Rw) (a i : Nat) : Nat := x.1 (a * 21 + i)
theorem ofA_r {u pl val a i : Nat} {x : Rw} (hi : i < 21) : rsA (ofA u pl val x) a i = if a = u ∧ pl.testBit i = true ∧ val < rsA x a i then val else rsA x a i := by
  show (ofS u pl val 21 (x.1, 0)).1 (a * 21 + i) = _
  rw [ofS_r]
  by_cases c : a = u ∧ pl.testBit i = true ∧ val < rsA x a i
  · rw [if_pos c, if_pos ⟨i, hi, by rw [c.1], c.2⟩]
  · rw [if_neg c, if_neg]
    rintro ⟨j, h1, h2, h3, h4⟩
    have e1 : a = u := by omega
    have e2 : i = j := by omega
    subst e2
    exact c ⟨e1, h3, h4⟩
theorem ofA_w {u pl val k t : Nat} {x : Rw} : ((ofA u pl val x).2 k).testBit t = true ↔ (x.2 k).testBit t = true ∨ (k = val / 256 % 10 * 8 + u ∧ t < 21 ∧ pl.testBit t = true ∧ val < rsA x u t) := by
  show (whP x.2 (val / 256) u (ofS u pl val 21 (x.1, 0)).2 k).testBit t = true ↔ _
  rw [whP_bit, ofS_b]
  constructor
  · rintro (h | ⟨h1, h2 | h2⟩)
    · exact Or.inl h
    · rw [Nat.zero_testBit] at h2; cases h2
    · exact Or.inr ⟨h1, h2⟩
  · rintro (h | ⟨h1, h2⟩)
    · exact Or.inl h
    · exact Or.inr ⟨h1, Or.inr h2⟩
/-- how many are settled -/
def stK (st : Nat → Nat) : Nat := cntB (fun x => (st (x / 21)).testBit (x % 21)) 168
/-- what holds all the time: st0 what was settled before the row's person, st what is now; m: the persons done; e: idle -/
def aM (v : Gr) (A : Pa) (q lv m e : Nat) (st0 st : Nat → Nat) (x : Rw) : Prop :=
  (∀ a i, a < 8 → i < 21 → rsA x a i < 387072 → (∃ n c, fR v A (gC v) (tgA A q) n c a i ∧ rsA x a i = 256 * c + n) ∧ rsA x a i % 256 ≤ stK st) ∧
  (∀ a i, a < 8 → i < 21 → tgA A q a i → rsA x a i = 0) ∧
  (∀ a i b j c, i < 21 → eR v A (gC v) a i b j c → (st0 b).testBit j = true → rsA x a i ≤ rsA x b j + 256 * c + 1) ∧
  (∀ b j, b < 8 → j < 21 → (st b).testBit j = true → rsA x b j < 256 * (lv + 1)) ∧
  (∀ a i, a < gP v → i < 21 → rsA x a i < 387072 → ¬ (st a).testBit i = true → (a < m → lv + 1 ≤ rsA x a i / 256) ∧ lv ≤ rsA x a i / 256 ∧ rsA x a i / 256 + e ≤ lv + 9 ∧ (x.2 (rsA x a i / 256 % 10 * 8 + a)).testBit i = true) ∧
  (∀ j a i, a < gP v → i < 21 → ((lv < j ∧ j < lv + 10) ∨ (j = lv ∧ m ≤ a)) → (x.2 (j % 10 * 8 + a)).testBit i = true → rsA x a i / 256 ≤ j) ∧
  (∀ a, a < m → a < gP v → x.2 (lv % 10 * 8 + a) = 0) ∧
  ∀ k t, (x.2 k).testBit t = true → t < 21
theorem eR_c {v : Gr} {A : Pa} {a i b j c : Nat} (hv : wfG v) (h : eR v A (gC v) a i b j c) : 1 ≤ c ∧ c ≤ 9 := by
  obtain ⟨s, h1, h2, h3⟩ := h
  have := hv.2.2 s h1
  omega
/-- one offer -/
theorem aM_of {v : Gr} {A : Pa} {q lv m : Nat} {st0 st : Nat → Nat} {x : Rw} (hv : wfG v) (h : aM v A q lv m 0 st0 st x) (h0 : ∀ b j, (st0 b).testBit j = true → (st b).testBit j = true ∧ b < 8 ∧ j < 21) {u pl val : Nat} (hu : u < gP v)
    (h1 : 256 * (lv + 1) ≤ val) (h2 : val / 256 ≤ lv + 9) (h3 : val % 256 ≤ stK st) (h4 : ∀ k, k < 21 → pl.testBit k = true → ∃ n c, fR v A (gC v) (tgA A q) n c u k ∧ val = 256 * c + n) : aM v A q lv m 0 st0 st (ofA u pl val x) := by
  obtain ⟨a1, a2, a3, a4, a5, a6, a7, a8⟩ := h
  have hP8 := hv.1
  have hle : ∀ a i, i < 21 → rsA (ofA u pl val x) a i ≤ rsA x a i := fun a i hi => by
    rw [ofA_r hi]; split <;> omega
  have hkeep : ∀ a i, i < 21 → rsA x a i < 256 * (lv + 1) → rsA (ofA u pl val x) a i = rsA x a i := fun a i hi hr => by
    rw [ofA_r hi, if_neg (by omega)]
  refine ⟨fun a i ha hi hr => ?_, fun a i ha hi ht => ?_, fun a i b j c hi he hb => ?_, fun b j hb hj hs => ?_, fun a i ha hi hr hs => ?_, fun j a i ha hi hj hb => ?_, fun a q1 q2 => ?_, fun k t ht => (ofA_w.mp ht).elim (a8 k t) (fun z => z.2.1)⟩
  · rw [ofA_r hi] at hr ⊢
    by_cases c : a = u ∧ pl.testBit i = true ∧ val < rsA x a i
    · rw [if_pos c]
      obtain ⟨c1, c2, c3⟩ := c
      subst c1
      exact ⟨h4 i hi c2, h3⟩
    · rw [if_neg c] at hr ⊢
      exact a1 a i ha hi hr
  · have e := a2 a i ha hi ht
    rw [hkeep a i hi (by omega)]; exact e
  · obtain ⟨s1, s2, s3⟩ := h0 b j hb
    rw [hkeep b j s3 (a4 b j s2 s3 s1)]
    exact Nat.le_trans (hle a i hi) (a3 a i b j c hi he hb)
  · rw [hkeep b j hj (a4 b j hb hj hs)]; exact a4 b j hb hj hs
  · rw [ofA_r hi] at hr ⊢
    by_cases c : a = u ∧ pl.testBit i = true ∧ val < rsA x a i
    · rw [if_pos c]
      obtain ⟨c1, c2, c3⟩ := c
      subst c1
      exact ⟨fun _ => by omega, by omega, by omega, ofA_w.mpr (Or.inr ⟨rfl, hi, c2, c3⟩)⟩
    · rw [if_neg c] at hr ⊢
      obtain ⟨q1, q2, q3, q4⟩ := a5 a i ha hi hr hs
      exact ⟨q1, q2, q3, ofA_w.mpr (Or.inl q4)⟩
  · have hl := hle a i hi
    rcases ofA_w.mp hb with hb | ⟨b1, b2, b3, b4⟩
    · have := a6 j a i ha hi hj hb
      have : rsA (ofA u pl val x) a i / 256 ≤ rsA x a i / 256 := Nat.div_le_div_right hl
      omega
    · have e1 : a = u := by omega
      subst e1
      rw [ofA_r hi, if_pos ⟨rfl, b3, b4⟩]
      omega
  · refine zero_of_bits (fun t ht => ?_)
    rcases ofA_w.mp ht with ht | ⟨b1, b2, b3, b4⟩
    · rw [a7 a q1 q2, Nat.zero_testBit] at ht; cases ht
    · omega
theorem ofA_le {u pl val a i : Nat} {x : Rw} (hi : i < 21) : rsA (ofA u pl val x) a i ≤ rsA x a i := by
  rw [ofA_r hi]; split <;> omega
theorem ofA_kp {u pl val a i lv : Nat} {x : Rw} (hi : i < 21) (h : 256 * (lv + 1) ≤ val) (hr : rsA x a i < 256 * (lv + 1)) : rsA (ofA u pl val x) a i = rsA x a i := by
  rw [ofA_r hi, if_neg (by omega)]
theorem ofA_got {u pl val i : Nat} {x : Rw} (hi : i < 21) (hp : pl.testBit i = true) : rsA (ofA u pl val x) u i ≤ val := by
  rw [ofA_r hi]
  by_cases c : val < rsA x u i
  · rw [if_pos ⟨rfl, hp, c⟩]; exact Nat.le_refl _
  · rw [if_neg (fun q => c q.2.2)]; omega
/-- all goings that enter a person at a position are offered -/
def gbO (v : Gr) (A : Pa) (u i r0 n : Nat) (x : Rw) : Prop := ∀ s, s < n → (gT v s = u ∧ (pEn A 0 (gK v s)).testBit i = true → ∀ k, k < 21 → (pB A i).testBit k = true → rsA x (gF v s) k ≤ r0 + 256 * gC v s + 1) ∧ (gF v s = u ∧ (pEn A 1 (gK v s)).testBit i = true → ∀ k, k < 21 → (pB A i).testBit k = true → rsA x (gT v s) k ≤ r0 + 256 * gC v s + 1)
theorem pw_bit {i y : Nat} : ¬ 2 ^ i &&& y = 0 ↔ y.testBit i = true := by
  rw [and_ne]
  constructor
  · rintro ⟨t, h1, h2⟩
    rw [Nat.testBit_two_pow, decide_eq_true_eq] at h1
    subst h1; exact h2
  · intro h
    exact ⟨i, by rw [Nat.testBit_two_pow, decide_eq_true_eq], h⟩
set_option maxHeartbeats 1000000 in
theorem gbS_M {v : Gr} {A : Pa} {q lv m u i r0 : Nat} {st0 st : Nat → Nat} (hv : wfG v) (hA : wfP A) (hy : syP A) (hP : inP v) (h0 : ∀ b j, (st0 b).testBit j = true → (st b).testBit j = true ∧ b < 8 ∧ j < 21) (hi : i < 21) (hu : u < gP v)
    (hr1 : r0 / 256 = lv) (hr2 : r0 % 256 + 1 ≤ stK st) (hs : ∃ n c, fR v A (gC v) (tgA A q) n c u i ∧ r0 = 256 * c + n) {x : Rw} (h : aM v A q lv m 0 st0 st x) (hx : rsA x u i = r0) :
    ∀ n, n ≤ gN v → aM v A q lv m 0 st0 st (gbS v A u i n x) ∧ (∀ a k, k < 21 → rsA (gbS v A u i n x) a k ≤ rsA x a k) ∧ (∀ a k, k < 21 → rsA x a k < 256 * (lv + 1) → rsA (gbS v A u i n x) a k = rsA x a k) ∧ gbO v A u i r0 n (gbS v A u i n x)
  | 0, _ => ⟨h, fun _ _ _ => Nat.le_refl _, fun _ _ _ _ => rfl, fun s q => absurd q (Nat.not_lt_zero _)⟩
  | n + 1, hn => by
    obtain ⟨b1, b2, b3, b4⟩ := gbS_M hv hA hy hP h0 hi hu hr1 hr2 hs h hx n (by omega)
    have hK : stK st ≤ 168 := cntB_le _ _
    have hc := hv.2.2 n (by omega)
    have hPn := hP n (by omega)
    have hval : gbV v u i n (gbS v A u i n x) = r0 + 256 * gC v n + 1 := by
      have : rsA (gbS v A u i n x) u i = r0 := by rw [b3 u i hi (by omega)]; exact hx
      show rsA (gbS v A u i n x) u i + 256 * gC v n + 1 = _
      rw [this]
    have v1 : 256 * (lv + 1) ≤ r0 + 256 * gC v n + 1 := by omega
    have v2 : (r0 + 256 * gC v n + 1) / 256 ≤ lv + 9 := by omega
    have v3 : (r0 + 256 * gC v n + 1) % 256 ≤ stK st := by omega
    obtain ⟨n0, c0, w1, w2⟩ := hs
    have hA1 : aM v A q lv m 0 st0 st (gbA v A u i n (r0 + 256 * gC v n + 1) (gbS v A u i n x)) ∧ (∀ a k, k < 21 → rsA (gbA v A u i n (r0 + 256 * gC v n + 1) (gbS v A u i n x)) a k ≤ rsA (gbS v A u i n x) a k) ∧ (∀ a k, k < 21 → rsA (gbS v A u i n x) a k < 256 * (lv + 1) → rsA (gbA v A u i n (r0 + 256 * gC v n + 1) (gbS v A u i n x)) a k = rsA (gbS v A u i n x) a k) ∧ (gT v n = u ∧ (pEn A 0 (gK v n)).testBit i = true → ∀ k, k < 21 → (pB A i).testBit k = true → rsA (gbA v A u i n (r0 + 256 * gC v n + 1) (gbS v A u i n x)) (gF v n) k ≤ r0 + 256 * gC v n + 1) := by
      unfold gbA
      by_cases c : gT v n = u ∧ ¬ 2 ^ i &&& pEn A 0 (gK v n) = 0
      · rw [if_pos c]
        refine ⟨aM_of hv b1 h0 (by omega) v1 v2 v3 (fun k hk hp => ⟨n0 + 1, gC v n + c0, ⟨u, i, gC v n, c0, rfl, ⟨n, by omega, rfl, by omega, Or.inl ⟨rfl, c.1, ?_⟩⟩, w1⟩, by omega⟩), fun a k hk => ofA_le hk, fun a k hk hr => ofA_kp hk v1 hr, fun _ k hk hp => ofA_got hk hp⟩
        rw [Nat.testBit_and, ← hy i k hi hk, hp, pw_bit.mp c.2]; rfl
      · rw [if_neg c]
        exact ⟨b1, fun _ _ _ => Nat.le_refl _, fun _ _ _ _ => rfl, fun d => absurd ⟨d.1, pw_bit.mpr d.2⟩ c⟩
    obtain ⟨a1, a2, a3, a4⟩ := hA1
    have hB1 : aM v A q lv m 0 st0 st (gbB v A u i n (r0 + 256 * gC v n + 1) (gbA v A u i n (r0 + 256 * gC v n + 1) (gbS v A u i n x))) ∧ (∀ a k, k < 21 → rsA (gbB v A u i n (r0 + 256 * gC v n + 1) (gbA v A u i n (r0 + 256 * gC v n + 1) (gbS v A u i n x))) a k ≤ rsA (gbA v A u i n (r0 + 256 * gC v n + 1) (gbS v A u i n x)) a k) ∧ (∀ a k, k < 21 → rsA (gbA v A u i n (r0 + 256 * gC v n + 1) (gbS v A u i n x)) a k < 256 * (lv + 1) → rsA (gbB v A u i n (r0 + 256 * gC v n + 1) (gbA v A u i n (r0 + 256 * gC v n + 1) (gbS v A u i n x))) a k = rsA (gbA v A u i n (r0 + 256 * gC v n + 1) (gbS v A u i n x)) a k) ∧ (gF v n = u ∧ (pEn A 1 (gK v n)).testBit i = true → ∀ k, k < 21 → (pB A i).testBit k = true → rsA (gbB v A u i n (r0 + 256 * gC v n + 1) (gbA v A u i n (r0 + 256 * gC v n + 1) (gbS v A u i n x))) (gT v n) k ≤ r0 + 256 * gC v n + 1) := by
      unfold gbB
      by_cases c : gF v n = u ∧ ¬ 2 ^ i &&& pEn A 1 (gK v n) = 0
      · rw [if_pos c]
        refine ⟨aM_of hv a1 h0 (by omega) v1 v2 v3 (fun k hk hp => ⟨n0 + 1, gC v n + c0, ⟨u, i, gC v n, c0, rfl, ⟨n, by omega, rfl, by omega, Or.inr ⟨rfl, c.1, ?_⟩⟩, w1⟩, by omega⟩), fun a k hk => ofA_le hk, fun a k hk hr => ofA_kp hk v1 hr, fun _ k hk hp => ofA_got hk hp⟩
        rw [Nat.testBit_and, ← hy i k hi hk, hp, pw_bit.mp c.2]; rfl
      · rw [if_neg c]
        exact ⟨a1, fun _ _ _ => Nat.le_refl _, fun _ _ _ _ => rfl, fun d => absurd ⟨d.1, pw_bit.mpr d.2⟩ c⟩
    obtain ⟨d1, d2, d3, d4⟩ := hB1
    unfold gbS
    rw [hval]
    refine ⟨d1, fun a k hk => Nat.le_trans (d2 a k hk) (Nat.le_trans (a2 a k hk) (b2 a k hk)), fun a k hk hr => ?_, fun s hs => ?_⟩
    · have e1 := b3 a k hk hr
      have e2 := a3 a k hk (by omega)
      have e3 := d3 a k hk (by omega)
      omega
    · by_cases e : s = n
      · subst e
        exact ⟨fun z k hk hp => Nat.le_trans (d2 _ k hk) (a4 z k hk hp), d4⟩
      · obtain ⟨z1, z2⟩ := b4 s (by omega)
        exact ⟨fun z k hk hp => Nat.le_trans (d2 _ k hk) (Nat.le_trans (a2 _ k hk) (z1 z k hk hp)), fun z k hk hp => Nat.le_trans (d2 _ k hk) (Nat.le_trans (a2 _ k hk) (z2 z k hk hp))⟩
theorem stS_M {v : Gr} {A : Pa} {q lv m u fresh : Nat} {st0 st : Nat → Nat} (hv : wfG v) (hA : wfP A) (hy : syP A) (hP : inP v) (h0 : ∀ b j, (st0 b).testBit j = true → (st b).testBit j = true ∧ b < 8 ∧ j < 21) (hu : u < gP v) {x : Rw} (h : aM v A q lv m 0 st0 st x)
    (hf : ∀ i, i < 21 → fresh.testBit i = true → rsA x u i / 256 = lv ∧ rsA x u i % 256 + 1 ≤ stK st ∧ ∃ n c, fR v A (gC v) (tgA A q) n c u i ∧ rsA x u i = 256 * c + n) :
    ∀ n, n ≤ 21 → aM v A q lv m 0 st0 st (stS v A u fresh n x) ∧ (∀ a k, k < 21 → rsA (stS v A u fresh n x) a k ≤ rsA x a k) ∧ (∀ a k, k < 21 → rsA x a k < 256 * (lv + 1) → rsA (stS v A u fresh n x) a k = rsA x a k) ∧ ∀ i, i < n → fresh.testBit i = true → gbO v A u i (rsA x u i) (gN v) (stS v A u fresh n x)
  | 0, _ => ⟨h, fun _ _ _ => Nat.le_refl _, fun _ _ _ _ => rfl, fun s q => absurd q (Nat.not_lt_zero _)⟩
  | n + 1, hn => by
    obtain ⟨b1, b2, b3, b4⟩ := stS_M hv hA hy hP h0 hu h hf n (by omega)
    unfold stS
    by_cases c : fresh.testBit n = true
    · rw [if_pos c]
      obtain ⟨f1, f2, f3⟩ := hf n (by omega) c
      have hx : rsA (stS v A u fresh n x) u n = rsA x u n := b3 u n (by omega) (by omega)
      obtain ⟨d1, d2, d3, d4⟩ := gbS_M hv hA hy hP h0 (show n < 21 by omega) hu f1 f2 f3 b1 hx (gN v) (Nat.le_refl _)
      refine ⟨d1, fun a k hk => Nat.le_trans (d2 a k hk) (b2 a k hk), fun a k hk hr => ?_, fun i hi hfi => ?_⟩
      · have e1 := b3 a k hk hr
        have e2 := d3 a k hk (by omega)
        omega
      · by_cases e : i = n
        · subst e; exact d4
        · intro s hs
          obtain ⟨z1, z2⟩ := b4 i (by omega) hfi s hs
          exact ⟨fun z k hk hp => Nat.le_trans (d2 _ k hk) (z1 z k hk hp), fun z k hk hp => Nat.le_trans (d2 _ k hk) (z2 z k hk hp)⟩
    · rw [if_neg c]
      refine ⟨b1, b2, b3, fun i hi hfi => ?_⟩
      by_cases e : i = n
      · subst e; exact absurd hfi c
      · exact b4 i (by omega) hfi
theorem stK_up {st : Nat → Nat} {u fresh i : Nat} (hu : u < 8) (hi : i < 21) (h1 : ¬ (st u).testBit i = true) (h2 : fresh.testBit i = true) : stK st + 1 ≤ stK (seR st u fresh) := by
  refine cntB_lt (fun x q => ?_) (k := u * 21 + i) ?_ ?_ 168 (by omega)
  · show (seR st u fresh (x / 21)).testBit (x % 21) = true
    unfold seR
    by_cases e : x / 21 = u
    · rw [if_pos e, Nat.testBit_or, ← e, q]; rfl
    · rw [if_neg e]; exact q
  · rw [show (u * 21 + i) / 21 = u by omega, show (u * 21 + i) % 21 = i by omega]; exact h1
  · show (seR st u fresh ((u * 21 + i) / 21)).testBit ((u * 21 + i) % 21) = true
    rw [show (u * 21 + i) / 21 = u by omega, show (u * 21 + i) % 21 = i by omega]
    unfold seR
    rw [if_pos rfl, Nat.testBit_or, h2, Bool.or_true]
/-- between persons: what is settled is closed -/
def aJ (v : Gr) (A : Pa) (q lv m : Nat) (x : Ab) : Prop := aM v A q lv m x.1 x.2.1 x.2.1 x.2.2 ∧ ∀ b j, (x.2.1 b).testBit j = true → b < 8 ∧ j < 21
theorem aM_wk {v : Gr} {A : Pa} {q lv m e : Nat} {st0 st : Nat → Nat} {x : Rw} (h : aM v A q lv m e st0 st x) : aM v A q lv m 0 st0 st x := by
  obtain ⟨a1, a2, a3, a4, a5, a6, a7, a8⟩ := h
  exact ⟨a1, a2, a3, a4, fun a i ha hi hr hs => by
    obtain ⟨q1, q2, q3, q4⟩ := a5 a i ha hi hr hs
    exact ⟨q1, q2, by omega, q4⟩, a6, a7, a8⟩
set_option maxHeartbeats 1000000 in
theorem aJ_st {v : Gr} {A : Pa} {q lv u : Nat} (hv : wfG v) (hA : wfP A) (hy : syP A) (hP : inP v) (hlv : lv < 1512) (hu : u < gP v) {x : Ab} (h : aJ v A q lv u x) : aJ v A q lv (u + 1) (aRow1 v A lv u x) := by
  obtain ⟨h, h0⟩ := h
  have hP8 := hv.1
  have hM := h
  obtain ⟨a1, a2, a3, a4, a5, a6, a7, a8⟩ := h
  unfold aRow1
  have hfr : ∀ i, i < 21 → ((mx_wo (x.2.2.2 (lv % 10 * 8 + u)) (x.2.1 u)).testBit i = true → ¬ (x.2.1 u).testBit i = true ∧ rsA x.2.2 u i < 387072 ∧ rsA x.2.2 u i / 256 = lv) := fun i hi hb => by
    rw [mx_wo_bit, Bool.and_eq_true, Bool.not_eq_true'] at hb
    have h1 : ¬ (x.2.1 u).testBit i = true := by rw [hb.2]; exact Bool.noConfusion
    have h2 := a6 lv u i hu hi (Or.inr ⟨rfl, Nat.le_refl _⟩) hb.1
    have h3 : rsA x.2.2 u i < 387072 := by omega
    have h4 := a5 u i hu hi h3 h1
    exact ⟨h1, h3, by omega⟩
  have hfr2 : ∀ i, i < 21 → ¬ (x.2.1 u).testBit i = true → rsA x.2.2 u i < 387072 → rsA x.2.2 u i / 256 = lv → (mx_wo (x.2.2.2 (lv % 10 * 8 + u)) (x.2.1 u)).testBit i = true := fun i hi h1 h2 h3 => by
    rw [mx_wo_bit, Bool.and_eq_true, Bool.not_eq_true']
    obtain ⟨q1, q2, q3, q4⟩ := a5 u i hu hi h2 h1
    rw [h3] at q4
    exact ⟨q4, Bool.eq_false_iff.mpr h1⟩
  by_cases c0 : mx_wo (x.2.2.2 (lv % 10 * 8 + u)) (x.2.1 u) = 0
  · rw [if_pos c0]
    refine ⟨⟨a1, a2, a3, a4, fun a i ha hi hr hs => ?_, fun j a i ha hi hj hb => a6 j a i ha hi (by omega) (whD_bit hb), fun a q1 q2 => ?_, fun k t ht => a8 k t (whD_bit ht)⟩, h0⟩
    · obtain ⟨q1, q2, q3, q4⟩ := a5 a i ha hi hr hs
      have hne : ¬ (a = u ∧ rsA x.2.2 a i / 256 = lv) := fun e => by
        have := hfr2 i hi (e.1 ▸ hs) (e.1 ▸ hr) (e.1 ▸ e.2)
        rw [c0, Nat.zero_testBit] at this
        cases this
      have q1' : a < u → lv + 1 ≤ rsA x.2.2 a i / 256 := q1
      have q2' : lv ≤ rsA x.2.2 a i / 256 := q2
      have q3' : rsA x.2.2 a i / 256 + x.1 ≤ lv + 9 := q3
      refine ⟨fun _ => by show lv + 1 ≤ rsA x.2.2 a i / 256; omega, q2, q3, ?_⟩
      show (whD x.2.2.2 lv u (rsA x.2.2 a i / 256 % 10 * 8 + a)).testBit i = true
      rw [whD_ne (by omega)]
      exact q4
    · show whD x.2.2.2 lv u (lv % 10 * 8 + a) = 0
      unfold whD
      split
      · rfl
      · exact a7 a (by omega) q2
  · rw [if_neg c0]
    obtain ⟨i0, hi0⟩ := Nat.exists_testBit_of_ne_zero c0
    have hf21 : ∀ i, (mx_wo (x.2.2.2 (lv % 10 * 8 + u)) (x.2.1 u)).testBit i = true → i < 21 := fun i hb => by
      rw [mx_wo_bit, Bool.and_eq_true] at hb
      exact a8 _ _ hb.1
    have hK := stK_up (st := x.2.1) (fresh := mx_wo (x.2.2.2 (lv % 10 * 8 + u)) (x.2.1 u)) (show u < 8 by omega) (hf21 i0 hi0) (hfr i0 (hf21 i0 hi0) hi0).1 hi0
    have hst : ∀ b j, (seR x.2.1 u (mx_wo (x.2.2.2 (lv % 10 * 8 + u)) (x.2.1 u)) b).testBit j = true ↔ (x.2.1 b).testBit j = true ∨ (b = u ∧ (mx_wo (x.2.2.2 (lv % 10 * 8 + u)) (x.2.1 u)).testBit j = true) := fun b j => by
      unfold seR
      by_cases e : b = u
      · rw [if_pos e, Nat.testBit_or, Bool.or_eq_true, e]
        exact ⟨fun z => z.elim Or.inl (fun z => Or.inr ⟨rfl, z⟩), fun z => z.elim Or.inl (fun z => Or.inr z.2)⟩
      · rw [if_neg e]
        exact ⟨Or.inl, fun z => z.elim id (fun z => absurd z.1 e)⟩
    have h1 : ∀ b j, (x.2.1 b).testBit j = true → (seR x.2.1 u (mx_wo (x.2.2.2 (lv % 10 * 8 + u)) (x.2.1 u)) b).testBit j = true ∧ b < 8 ∧ j < 21 := fun b j hb => ⟨(hst b j).mpr (Or.inl hb), h0 b j hb⟩
    generalize hST : seR x.2.1 u (mx_wo (x.2.2.2 (lv % 10 * 8 + u)) (x.2.1 u)) = st' at hK hst h1 ⊢
    generalize hFR : mx_wo (x.2.2.2 (lv % 10 * 8 + u)) (x.2.1 u) = fr at *
    have hx0 : aM v A q lv (u + 1) 0 x.2.1 st' (x.2.2.1, whD x.2.2.2 lv u) := by
      refine ⟨fun a i ha hi hr => ?_, a2, a3, fun b j hb hj hs => ?_, fun a i ha hi hr hs => ?_, fun j a i ha hi hj hb => a6 j a i ha hi (by omega) (whD_bit hb), fun a q1 q2 => ?_, fun k t ht => a8 k t (whD_bit ht)⟩
      · obtain ⟨z1, z2⟩ := a1 a i ha hi hr
        exact ⟨z1, Nat.le_trans z2 (by omega)⟩
      · show rsA x.2.2 b j < 256 * (lv + 1)
        rcases (hst b j).mp hs with z | ⟨z1, z2⟩
        · exact a4 b j hb hj z
        · subst z1
          have := (hfr j hj z2).2.2
          omega
      · have hs1 : ¬ (x.2.1 a).testBit i = true := fun z => hs ((hst a i).mpr (Or.inl z))
        obtain ⟨q1, q2, q3, q4⟩ := a5 a i ha hi hr hs1
        have hne : ¬ (a = u ∧ rsA x.2.2 a i / 256 = lv) := fun e => hs ((hst a i).mpr (Or.inr ⟨e.1, hfr2 i hi (e.1 ▸ hs1) (e.1 ▸ hr) (e.1 ▸ e.2)⟩))
        refine ⟨fun _ => by show lv + 1 ≤ rsA x.2.2 a i / 256; omega, q2, by show rsA x.2.2 a i / 256 + 0 ≤ lv + 9; omega, ?_⟩
        show (whD x.2.2.2 lv u (rsA x.2.2 a i / 256 % 10 * 8 + a)).testBit i = true
        rw [whD_ne (by omega)]
        exact q4
      · show whD x.2.2.2 lv u (lv % 10 * 8 + a) = 0
        unfold whD
        split
        · rfl
        · exact a7 a (by omega) q2
    obtain ⟨d1, d2, d3, d4⟩ := stS_M hv hA hy hP h1 hu hx0 (fresh := fr) (fun i hi hb => by
      obtain ⟨z1, z2, z3⟩ := hfr i hi hb
      obtain ⟨z4, z5⟩ := a1 u i (by omega) hi z2
      exact ⟨z3, by show rsA x.2.2 u i % 256 + 1 ≤ stK st'; omega, z4⟩) 21 (Nat.le_refl _)
    refine ⟨?_, fun b j hb => (((hst b j).mp hb).elim (h0 b j) (fun z => ⟨by omega, hf21 j z.2⟩))⟩
    obtain ⟨b1, b2, b3, b4, b5⟩ := d1
    refine ⟨b1, b2, fun a i b j c hi he hb => ?_, b4, b5⟩
    rcases (hst b j).mp hb with z | ⟨z1, z2⟩
    · exact b3 a i b j c hi he z
    · subst z1
      have hj := hf21 j z2
      have hr0 : rsA (stS v A b fr 21 (x.2.2.1, whD x.2.2.2 lv b)) b j = rsA x.2.2 b j := d3 b j hj (by
        have := (hfr j hj z2).2.2
        show rsA x.2.2 b j < _
        omega)
      show rsA (stS v A b fr 21 (x.2.2.1, whD x.2.2.2 lv b)) a i ≤ rsA (stS v A b fr 21 (x.2.2.1, whD x.2.2.2 lv b)) b j + 256 * c + 1
      rw [hr0]
      obtain ⟨s, hs, e1, e2, e3⟩ := he
      obtain ⟨g1, g2⟩ := d4 j hj z2 s hs
      rcases e3 with ⟨e3, e4, e5⟩ | ⟨e3, e4, e5⟩
      · rw [Nat.testBit_and, Bool.and_eq_true] at e5
        have := g1 ⟨e4, e5.2⟩ i hi (by rw [hy j i hj hi]; exact e5.1)
        rw [e3, e1] at this
        exact this
      · rw [Nat.testBit_and, Bool.and_eq_true] at e5
        have := g2 ⟨e4, e5.2⟩ i hi (by rw [hy j i hj hi]; exact e5.1)
        rw [e3, e1] at this
        exact this
theorem aJ_row {v : Gr} {A : Pa} {q lv : Nat} (hv : wfG v) (hA : wfP A) (hy : syP A) (hP : inP v) (hlv : lv < 1512) {x : Ab} (h : aJ v A q lv 0 x) : ∀ u, u ≤ gP v → aJ v A q lv u (aRow v A lv u x)
  | 0, _ => h
  | u + 1, hu => aJ_st hv hA hy hP hlv (by omega) (aJ_row hv hA hy hP hlv h u (by omega))
/-- ahead of a level -/
def aI (v : Gr) (A : Pa) (q lv : Nat) (x : Ab) : Prop := aJ v A q lv 0 (x.1 + 1, x.2)
theorem aI_row {v : Gr} {A : Pa} {q lv : Nat} (hv : wfG v) (hA : wfP A) (hy : syP A) (hP : inP v) (hlv : lv < 1512) {x : Ab} (h : aI v A q lv x) : aI v A q (lv + 1) (aRow v A lv (gP v) (x.1 + 1, x.2)) := by
  obtain ⟨⟨a1, a2, a3, a4, a5, a6, a7, a8⟩, h0⟩ := aJ_row hv hA hy hP hlv h (gP v) (Nat.le_refl _)
  generalize aRow v A lv (gP v) (x.1 + 1, x.2) = y at *
  refine ⟨⟨a1, a2, a3, fun b j hb hj hs => Nat.lt_trans (a4 b j hb hj hs) (by omega), fun a i ha hi hr hs => ?_, fun j a i ha hi hj hb => ?_, fun a q => absurd q (Nat.not_lt_zero _), a8⟩, h0⟩
  · obtain ⟨q1, q2, q3, q4⟩ := a5 a i ha hi hr hs
    exact ⟨fun z => absurd z (Nat.not_lt_zero _), q1 ha, by
      have q3 : rsA y.2.2 a i / 256 + y.1 ≤ lv + 9 := q3
      show rsA y.2.2 a i / 256 + (y.1 + 1) ≤ lv + 1 + 9
      omega, q4⟩
  · by_cases e : j = lv + 10
    · rw [show j % 10 = lv % 10 by omega, a7 a ha ha, Nat.zero_testBit] at hb
      cases hb
    · exact a6 j a i ha hi (by omega) hb
theorem aI_run {v : Gr} {A : Pa} {q : Nat} (hv : wfG v) (hA : wfP A) (hy : syP A) (hP : inP v) : ∀ (f lv : Nat) (x : Ab), lv + f ≤ 1512 → aI v A q lv x → ∃ l2, aI v A q l2 (aRun v A f lv x) ∧ (l2 = lv + f ∨ 10 ≤ (aRun v A f lv x).1)
  | 0, lv, x, _, h => ⟨lv, h, Or.inl rfl⟩
  | f + 1, lv, x, hl, h => by
    unfold aRun
    by_cases c : x.1 < 10
    · rw [if_pos c]
      obtain ⟨l2, h1, h2⟩ := aI_run hv hA hy hP f (lv + 1) _ (by omega) (aI_row hv hA hy hP (by omega) h)
      exact ⟨l2, h1, by rw [show lv + (f + 1) = lv + 1 + f by omega]; exact h2⟩
    · rw [if_neg c]
      exact ⟨lv, h, Or.inr (by omega)⟩
theorem fR_P {v : Gr} {A : Pa} {pr : Nat → Nat} {q : Nat} (hP : inP v) (hq : q < gP v) {n c a i : Nat} (h : fR v A pr (tgA A q) n c a i) : a < gP v := by
  cases n with
  | zero => have := h.2.1; omega
  | succ n =>
    obtain ⟨b, j, c1, c2, h1, h2, h3⟩ := h
    exact (eR_P hP h2).1
theorem aI_ini {v : Gr} {A : Pa} {q : Nat} (hv : wfG v) (hA : wfP A) (hq : q < gP v) : aI v A q 0 (aIni A q) := by
  have hP8 := hv.1
  have hr : ∀ a i, i < 21 → rsA (aIni A q).2.2 a i = if a = q ∧ (pAc A).testBit i = true then 0 else 387072 := fun a i hi => by
    show rsA (ofA q (pAc A) 0 (fun _ => 387072, fun _ => 0)) a i = _
    rw [ofA_r hi]
    by_cases c : a = q ∧ (pAc A).testBit i = true
    · rw [if_pos c, if_pos ⟨c.1, c.2, (by decide : 0 < 387072)⟩]
    · rw [if_neg c, if_neg (fun z => c ⟨z.1, z.2.1⟩)]
  have hw : ∀ k t, ((aIni A q).2.2.2 k).testBit t = true ↔ k = q ∧ t < 21 ∧ (pAc A).testBit t = true := fun k t => by
    show ((ofA q (pAc A) 0 (fun _ => 387072, fun _ => 0)).2 k).testBit t = true ↔ _
    rw [ofA_w]
    constructor
    · rintro (h | ⟨h1, h2, h3, h4⟩)
      · rw [Nat.zero_testBit] at h; cases h
      · exact ⟨by omega, h2, h3⟩
    · rintro ⟨h1, h2, h3⟩
      exact Or.inr ⟨by omega, h2, h3, (by decide : 0 < 387072)⟩
  refine ⟨⟨fun a i ha hi h => ?_, fun a i ha hi ht => ?_, fun a i b j c _ _ hb => ?_, fun b j _ _ hb => ?_, fun a i ha hi h _ => ?_, fun j a i ha hi hj hb => ?_, fun a q => absurd q (Nat.not_lt_zero _), fun k t h => ((hw k t).mp h).2.1⟩, fun b j hb => ?_⟩
  · have h : rsA (aIni A q).2.2 a i < 387072 := h
    rw [hr a i hi] at h
    by_cases c : a = q ∧ (pAc A).testBit i = true
    · show (∃ n c, fR v A (gC v) (tgA A q) n c a i ∧ rsA (aIni A q).2.2 a i = 256 * c + n) ∧ rsA (aIni A q).2.2 a i % 256 ≤ _
      rw [hr a i hi, if_pos c]
      exact ⟨⟨0, 0, ⟨rfl, c⟩, rfl⟩, Nat.zero_le _⟩
    · rw [if_neg c] at h; omega
  · show rsA (aIni A q).2.2 a i = 0
    rw [hr a i hi]
    exact if_pos ht
  · have hb : (0 : Nat).testBit j = true := hb
    rw [Nat.zero_testBit] at hb; cases hb
  · have hb : (0 : Nat).testBit j = true := hb
    rw [Nat.zero_testBit] at hb; cases hb
  · have h : rsA (aIni A q).2.2 a i < 387072 := h
    rw [hr a i hi] at h
    by_cases c : a = q ∧ (pAc A).testBit i = true
    · show (a < 0 → 0 + 1 ≤ rsA (aIni A q).2.2 a i / 256) ∧ 0 ≤ rsA (aIni A q).2.2 a i / 256 ∧ rsA (aIni A q).2.2 a i / 256 + (0 + 1) ≤ 0 + 9 ∧ ((aIni A q).2.2.2 (rsA (aIni A q).2.2 a i / 256 % 10 * 8 + a)).testBit i = true
      rw [hr a i hi, if_pos c]
      exact ⟨fun z => absurd z (Nat.not_lt_zero _), Nat.zero_le _, by decide, (hw _ _).mpr ⟨by rw [← c.1]; omega, hi, c.2⟩⟩
    · rw [if_neg c] at h; omega
  · obtain ⟨q1, q2, q3⟩ := (hw _ _).mp hb
    have e : a = q := by omega
    show rsA (aIni A q).2.2 a i / 256 ≤ j
    rw [hr a i hi, if_pos ⟨e, q3⟩]
    exact Nat.zero_le _
  · have hb : (0 : Nat).testBit j = true := hb
    rw [Nat.zero_testBit] at hb; cases hb
/-- what is left, by person and position -/
theorem aFin_eq {v : Gr} {A : Pa} {q : Nat} (hv : wfG v) (hA : wfP A) (hy : syP A) (hP : inP v) (hq : q < gP v) {a i : Nat} (ha : a < 8) (hi : i < 21) : (aFin v A q).2.2.1 (a * 21 + i) = enc 256 387072 (bR v A (gC v) (tgA A q) a i) := by
  obtain ⟨l2, ⟨⟨a1, a2, a3, a4, a5, a6, a7, a8⟩, h0⟩, h2⟩ := aI_run hv hA hy hP 1512 0 _ (Nat.le_refl _) (aI_ini (A := A) hv hA hq)
  have hset : ∀ b j, b < 8 → j < 21 → rsA (aFin v A q).2.2 b j < 387072 → ((aFin v A q).2.1 b).testBit j = true := fun b j hb hj hr => by
    rcases Classical.em (((aFin v A q).2.1 b).testBit j = true) with z | z
    · exact z
    · exfalso
      obtain ⟨⟨n, c, z1, -⟩, -⟩ := a1 b j hb hj hr
      obtain ⟨q1, q2, q3, q4⟩ := a5 b j (fR_P hP hq z1) hj hr z
      have q2 : l2 ≤ rsA (aFin v A q).2.2 b j / 256 := q2
      have q3 : rsA (aFin v A q).2.2 b j / 256 + ((aFin v A q).1 + 1) ≤ l2 + 9 := q3
      rcases h2 with h2 | h2
      · omega
      · have h2 : 10 ≤ (aFin v A q).1 := h2
        omega
  have hle : ∀ j, (aFin v A q).2.2.1 j ≤ 387072 := (aFin_B v A q).1
  exact tab_eq (U := 256) (X := 387072) (f := fun a i => rsA (aFin v A q).2.2 a i) hv hA (fun s hs => (hv.2.2 s hs).2.2.2.2) (by decide) (by decide) a2 (fun a i b j c h1 h2 h3 h4 => by
    obtain ⟨q1, q2, q3, q4⟩ := eR_b hv hA h3
    exact a3 a i b j c h2 h3 (hset b j q2 q3 h4)) ha hi (hle _) (fun h => (a1 a i ha hi h).1)
