/-! THE SEARCH FINDS THE LEAST COSTS -/
def prB (v : Gr) (bl : Nat) : Nat → Nat := fun s => if bl.testBit s = true then 0 else gC v s
theorem prB_le {v : Gr} (hv : wfG v) (bl s : Nat) (hs : s < gN v) : prB v bl s ≤ 9 := by
  unfold prB
  split
  · omega
  · exact (hv.2.2 s hs).2.2.2.2
theorem orF_bit (af : Nat → Nat) (ps t : Nat) : ∀ n, (orF af ps n).testBit t = true ↔ ∃ i, i < n ∧ ps.testBit i = true ∧ (af i).testBit t = true
  | 0 => by
    unfold orF
    rw [Nat.zero_testBit]
    exact ⟨fun q => Bool.noConfusion q, fun ⟨i, q, _⟩ => absurd q (Nat.not_lt_zero _)⟩
  | n + 1 => by
    unfold orF
    rw [Nat.testBit_or, Bool.or_eq_true, orF_bit af ps t n]
    constructor
    · rintro (⟨i, h1, h2⟩ | h)
      · exact ⟨i, by omega, h2⟩
      · by_cases c : ps.testBit n = true
        · rw [if_pos c] at h; exact ⟨n, Nat.lt_succ_self n, c, h⟩
        · rw [if_neg c, Nat.zero_testBit] at h; cases h
    · rintro ⟨i, h1, h2, h3⟩
      by_cases e : i = n
      · subst e; rw [if_pos h2]; exact Or.inr h3
      · exact Or.inl ⟨i, by omega, h2, h3⟩
theorem pFol_bit (A : Pa) (ps t : Nat) : (pFol A ps).testBit t = true ↔ ∃ i, i < 21 ∧ ps.testBit i = true ∧ (pA A i).testBit t = true := orF_bit _ _ _ _
theorem and_ne {a b : Nat} : ¬ a &&& b = 0 ↔ ∃ t, a.testBit t = true ∧ b.testBit t = true := by
  constructor
  · intro h
    obtain ⟨t, ht⟩ := Nat.exists_testBit_of_ne_zero h
    rw [Nat.testBit_and, Bool.and_eq_true] at ht
    exact ⟨t, ht⟩
  · rintro ⟨t, h1, h2⟩ h
    have h3 : (a &&& b).testBit t = true := by rw [Nat.testBit_and, h1, h2]; rfl
    rw [h, Nat.zero_testBit] at h3
    cases h3
theorem zero_of_bits {a : Nat} (h : ∀ t, ¬ a.testBit t = true) : a = 0 := by
  rcases Classical.em (a = 0) with q | q
  · exact q
  · obtain ⟨t, ht⟩ := Nat.exists_testBit_of_ne_zero q
    exact absurd ht (h t)
def rC (v : Gr) (A : Pa) (pr : Nat → Nat) (p c u s : Nat) : Prop := ∃ n, rR v A pr p n c u s
def rM (v : Gr) (A : Pa) (pr : Nat → Nat) (p c u s : Nat) : Prop := rC v A pr p c u s ∧ ∀ d, d < c → ¬ rC v A pr p d u s
theorem rC_st {v : Gr} {A : Pa} {pr : Nat → Nat} {p c a i b j k : Nat} (h : rC v A pr p c a i) (e : eR v A pr a i b j k) : rC v A pr p (c + k) b j := by
  obtain ⟨n, hn⟩ := h
  exact ⟨n + 1, a, i, c, k, rfl, hn, e⟩
theorem rC_inv {v : Gr} {A : Pa} {pr : Nat → Nat} {p c b j : Nat} (h : rC v A pr p c b j) : (c = 0 ∧ b = p ∧ j = 0) ∨ ∃ a i d k, c = d + k ∧ rC v A pr p d a i ∧ eR v A pr a i b j k := by
  obtain ⟨n, hn⟩ := h
  cases n with
  | zero => exact Or.inl hn
  | succ n =>
    obtain ⟨a, i, c1, c2, h1, h2, h3⟩ := hn
    exact Or.inr ⟨a, i, c1, c2, h1, ⟨n, h2⟩, h3⟩
theorem rC_0 (v : Gr) (A : Pa) (pr : Nat → Nat) (p : Nat) : rC v A pr p 0 p 0 := ⟨0, rfl, rfl, rfl⟩
theorem rC_min {v : Gr} {A : Pa} {pr : Nat → Nat} {p c u s : Nat} (h : rC v A pr p c u s) : ∃ d, d ≤ c ∧ rM v A pr p d u s := by
  obtain ⟨d, h1, h2⟩ := least_ex (fun c => rC v A pr p c u s) c h
  exact ⟨d, h2 c h, h1, fun e he q => absurd (h2 e q) (by omega)⟩
theorem eR_pos {v : Gr} {A : Pa} {pr : Nat → Nat} {a i b j k : Nat} (e : eR v A pr a i b j k) : 0 < k := by
  obtain ⟨s, h1, h2, h3, h4⟩ := e
  exact h3
theorem rM_inv {v : Gr} {A : Pa} {pr : Nat → Nat} {p c b j : Nat} (h : rM v A pr p c b j) : (c = 0 ∧ b = p ∧ j = 0) ∨ ∃ a i d k, c = d + k ∧ rM v A pr p d a i ∧ eR v A pr a i b j k := by
  rcases rC_inv h.1 with q | ⟨a, i, d, k, h1, h2, h3⟩
  · exact Or.inl q
  · obtain ⟨d', h4, h5⟩ := rC_min h2
    have h6 : ¬ d' + k < c := fun q => h.2 _ q (rC_st h5.1 h3)
    exact Or.inr ⟨a, i, d', k, by omega, h5, h3⟩
theorem eR_P {v : Gr} {A : Pa} {pr : Nat → Nat} {a i b j k : Nat} (hP : inP v) (e : eR v A pr a i b j k) : a < gP v ∧ b < gP v := by
  obtain ⟨s, h1, h2, h3, h4⟩ := e
  have := hP s h1
  rcases h4 with h4 | h4 <;> omega
theorem rC_P {v : Gr} {A : Pa} {pr : Nat → Nat} {p c u s : Nat} (hP : inP v) (hp : p < gP v) (h : rC v A pr p c u s) : u < gP v := by
  rcases rC_inv h with ⟨h1, h2, h3⟩ | ⟨a, i, d, k, h1, h2, h3⟩
  · omega
  · exact (eR_P hP h3).2
def aC (v : Gr) (A : Pa) (pr : Nat → Nat) (p d u : Nat) : Prop := ∃ t, rC v A pr p d u t ∧ (pAc A).testBit t = true
def csI (v : Gr) (A : Pa) (pr : Nat → Nat) (p lv u : Nat) (o : Option Nat) : Prop := match o with
  | none => ∀ d, d < lv → ¬ aC v A pr p d u
  | some d => d < lv ∧ aC v A pr p d u ∧ ∀ e, e < d → ¬ aC v A pr p e u
def sI (v : Gr) (A : Pa) (bl p lv : Nat) (x : Sg) : Prop :=
  (∀ u s, u < gP v → ((x.2.2.1 u).testBit s = true ↔ ∃ c, c < lv ∧ rC v A (prB v bl) p c u s)) ∧
  (∀ j u s, lv ≤ j → j < lv + 10 → u < gP v → (x.2.2.2 (j % 10 * 8 + u)).testBit s = true → rC v A (prB v bl) p j u s) ∧
  (∀ a i c u s k, c < lv → rM v A (prB v bl) p c a i → eR v A (prB v bl) a i u s k → lv ≤ c + k → (x.2.2.2 ((c + k) % 10 * 8 + u)).testBit s = true) ∧
  (lv = 0 → (x.2.2.2 p).testBit 0 = true) ∧
  (∀ u, u < gP v → csI v A (prB v bl) p lv u (x.2.1 u)) ∧
  (x.1 ≤ lv ∧ ∀ c u s, lv ≤ c + x.1 → c < lv → ¬ rM v A (prB v bl) p c u s)
/-- within a row: the persons below m are done -/
def sJ (v : Gr) (A : Pa) (bl p lv m : Nat) (x : Sg) : Prop :=
  (∀ u s, u < gP v → ((x.2.2.1 u).testBit s = true ↔ ∃ c, (c < lv ∨ (c = lv ∧ u < m)) ∧ rC v A (prB v bl) p c u s)) ∧
  (∀ j u s, u < gP v → ((lv < j ∧ j < lv + 10) ∨ (j = lv ∧ m ≤ u)) → (x.2.2.2 (j % 10 * 8 + u)).testBit s = true → rC v A (prB v bl) p j u s) ∧
  (∀ u, u < m → u < gP v → x.2.2.2 (lv % 10 * 8 + u) = 0) ∧
  (∀ a i c u s k, rM v A (prB v bl) p c a i → eR v A (prB v bl) a i u s k → (c < lv ∨ (c = lv ∧ a < m)) → (lv < c + k ∨ (c + k = lv ∧ m ≤ u)) → (x.2.2.2 ((c + k) % 10 * 8 + u)).testBit s = true) ∧
  (lv = 0 → m ≤ p → (x.2.2.2 p).testBit 0 = true) ∧
  (∀ u, u < gP v → csI v A (prB v bl) p (if u < m then lv + 1 else lv) u (x.2.1 u)) ∧
  (x.1 ≤ lv + 1 ∧ ∀ c u s, lv + 1 ≤ c + x.1 → (c < lv ∨ (c = lv ∧ u < m)) → ¬ rM v A (prB v bl) p c u s)
theorem sI_J {v : Gr} {A : Pa} {bl p lv : Nat} {x : Sg} (h : sI v A bl p lv x) : sJ v A bl p lv 0 (x.1 + 1, x.2) := by
  obtain ⟨h1, h2, h3, h4, h5, h6, h7⟩ := h
  refine ⟨fun u s hu => ?_, fun j u s hu hj hb => h2 j u s (by omega) (by omega) hu hb, fun u q => absurd q (Nat.not_lt_zero _), fun a i c u s k q1 q2 q3 q4 => h3 a i c u s k (by omega) q1 q2 (by omega), fun q _ => h4 q, fun u hu => ?_, by show x.1 + 1 ≤ lv + 1; omega, fun c u s q1 q2 => ?_⟩
  · rw [h1 u s hu]
    exact ⟨fun ⟨c, q1, q2⟩ => ⟨c, Or.inl q1, q2⟩, fun ⟨c, q1, q2⟩ => ⟨c, by omega, q2⟩⟩
  · rw [if_neg (Nat.not_lt_zero _)]; exact h5 u hu
  · have q1 : lv + 1 ≤ c + (x.1 + 1) := q1
    exact h7 c u s (by omega) (by omega)
theorem sJ_I {v : Gr} {A : Pa} {bl p lv : Nat} {x : Sg} (hP : inP v) (hp : p < gP v) (h : sJ v A bl p lv (gP v) x) : sI v A bl p (lv + 1) x := by
  obtain ⟨h1, h2, h3, h4, h5, h6, h7, h8⟩ := h
  refine ⟨fun u s hu => ?_, fun j u s q1 q2 hu hb => ?_, fun a i c u s k q1 q2 q3 q4 => ?_, fun q => absurd q (Nat.succ_ne_zero _), fun u hu => ?_, h7, fun c u s q1 q2 q3 => ?_⟩
  · rw [h1 u s hu]
    exact ⟨fun ⟨c, q1, q2⟩ => ⟨c, by omega, q2⟩, fun ⟨c, q1, q2⟩ => ⟨c, by omega, q2⟩⟩
  · by_cases e : j = lv + 10
    · rw [show j % 10 = lv % 10 by omega, h3 u hu hu, Nat.zero_testBit] at hb
      cases hb
    · exact h2 j u s hu (Or.inl ⟨by omega, by omega⟩) hb
  · have := (eR_P hP q3).1
    exact h4 a i c u s k q2 q3 (by omega) (Or.inl (by omega))
  · have := h6 u hu
    rw [if_pos hu] at this
    exact this
  · have := rC_P hP hp q3.1
    exact h8 c u s (by omega) (by omega) q3
/-- the wheel after a person has been settled -/
theorem whP_bit (w : Nat → Nat) (lv u x k t : Nat) : (whP w lv u x k).testBit t = true ↔ (w k).testBit t = true ∨ (k = lv % 10 * 8 + u ∧ x.testBit t = true) := by
  unfold whP
  by_cases e : k = lv % 10 * 8 + u
  · rw [if_pos e, Nat.testBit_or, Bool.or_eq_true]
    exact ⟨fun q => q.elim Or.inl (fun q => Or.inr ⟨e, q⟩), fun q => q.elim Or.inl (fun q => Or.inr q.2)⟩
  · rw [if_neg e]
    exact ⟨Or.inl, fun q => q.elim id (fun q => absurd q.1 e)⟩
theorem seW_bit (v : Gr) (A : Pa) (bl nx u level : Nat) (w : Nat → Nat) (k t : Nat) : ∀ n, (seW v A bl nx u level w n k).testBit t = true ↔ (w k).testBit t = true ∨ ∃ s, s < n ∧ ¬ bl.testBit s = true ∧ ((gF v s = u ∧ k = (level + gC v s) % 10 * 8 + gT v s ∧ (nx &&& pEn A 0 (gK v s)).testBit t = true) ∨ (gT v s = u ∧ k = (level + gC v s) % 10 * 8 + gF v s ∧ (nx &&& pEn A 1 (gK v s)).testBit t = true))
  | 0 => ⟨Or.inl, fun q => q.elim id (fun ⟨s, q, _⟩ => absurd q (Nat.not_lt_zero _))⟩
  | n + 1 => by
    have ih := seW_bit v A bl nx u level w k t n
    have ha : (seWa v A bl nx u level n (seW v A bl nx u level w n) k).testBit t = true ↔ (seW v A bl nx u level w n k).testBit t = true ∨ (gF v n = u ∧ ¬ bl.testBit n = true ∧ k = (level + gC v n) % 10 * 8 + gT v n ∧ (nx &&& pEn A 0 (gK v n)).testBit t = true) := by
      unfold seWa
      by_cases c : gF v n = u ∧ ¬ bl.testBit n = true
      · rw [if_pos c, whP_bit]
        exact ⟨fun q => q.elim Or.inl (fun q => Or.inr ⟨c.1, c.2, q.1, q.2⟩), fun q => q.elim Or.inl (fun q => Or.inr ⟨q.2.2.1, q.2.2.2⟩)⟩
      · rw [if_neg c]
        exact ⟨Or.inl, fun q => q.elim id (fun q => absurd ⟨q.1, q.2.1⟩ c)⟩
    have hb : (seW v A bl nx u level w (n + 1) k).testBit t = true ↔ (seWa v A bl nx u level n (seW v A bl nx u level w n) k).testBit t = true ∨ (gT v n = u ∧ ¬ bl.testBit n = true ∧ k = (level + gC v n) % 10 * 8 + gF v n ∧ (nx &&& pEn A 1 (gK v n)).testBit t = true) := by
      show (seWb v A bl nx u level n (seWa v A bl nx u level n (seW v A bl nx u level w n)) k).testBit t = true ↔ _
      unfold seWb
      by_cases c : gT v n = u ∧ ¬ bl.testBit n = true
      · rw [if_pos c, whP_bit]
        exact ⟨fun q => q.elim Or.inl (fun q => Or.inr ⟨c.1, c.2, q.1, q.2⟩), fun q => q.elim Or.inl (fun q => Or.inr ⟨q.2.2.1, q.2.2.2⟩)⟩
      · rw [if_neg c]
        exact ⟨Or.inl, fun q => q.elim id (fun q => absurd ⟨q.1, q.2.1⟩ c)⟩
    rw [hb, ha, ih]
    constructor
    · rintro ((((h | ⟨s, h1, h2⟩) | ⟨h1, h2, h3⟩)) | ⟨h1, h2, h3⟩)
      · exact Or.inl h
      · exact Or.inr ⟨s, by omega, h2⟩
      · exact Or.inr ⟨n, Nat.lt_succ_self n, h2, Or.inl ⟨h1, h3⟩⟩
      · exact Or.inr ⟨n, Nat.lt_succ_self n, h2, Or.inr ⟨h1, h3⟩⟩
    · rintro (h | ⟨s, h1, h2, h3⟩)
      · exact Or.inl (Or.inl (Or.inl h))
      · by_cases e : s = n
        · subst e
          rcases h3 with h3 | h3
          · exact Or.inl (Or.inr ⟨h3.1, h2, h3.2⟩)
          · exact Or.inr ⟨h3.1, h2, h3.2⟩
        · exact Or.inl (Or.inl (Or.inr ⟨s, by omega, h2, h3⟩))
theorem fol_bit (A : Pa) (fr y t : Nat) : (pFol A fr &&& y).testBit t = true ↔ ∃ i, i < 21 ∧ fr.testBit i = true ∧ (pA A i &&& y).testBit t = true := by
  rw [Nat.testBit_and, Bool.and_eq_true, pFol_bit]
  constructor
  · rintro ⟨⟨i, h1, h2, h3⟩, h4⟩
    exact ⟨i, h1, h2, by rw [Nat.testBit_and, h3, h4]; rfl⟩
  · rintro ⟨i, h1, h2, h3⟩
    rw [Nat.testBit_and, Bool.and_eq_true] at h3
    exact ⟨⟨i, h1, h2, h3.1⟩, h3.2⟩
theorem seW_eR {v : Gr} {A : Pa} (hv : wfG v) {bl fr u level : Nat} {w : Nat → Nat} (h21 : ∀ i, fr.testBit i = true → i < 21) (k t : Nat) : (seW v A bl (pFol A fr) u level w (gN v) k).testBit t = true ↔ (w k).testBit t = true ∨ ∃ i b c, fr.testBit i = true ∧ eR v A (prB v bl) u i b t c ∧ k = (level + c) % 10 * 8 + b := by
  rw [seW_bit]
  constructor
  · rintro (h | ⟨s, h1, h2, h3⟩)
    · exact Or.inl h
    · have hp : prB v bl s = gC v s := by unfold prB; rw [if_neg h2]
      have hc := hv.2.2 s h1
      rcases h3 with ⟨h3, h4, h5⟩ | ⟨h3, h4, h5⟩
      · obtain ⟨i, q1, q2, q3⟩ := (fol_bit _ _ _ _).mp h5
        exact Or.inr ⟨i, gT v s, gC v s, q2, ⟨s, h1, hp, by omega, Or.inl ⟨h3, rfl, q3⟩⟩, h4⟩
      · obtain ⟨i, q1, q2, q3⟩ := (fol_bit _ _ _ _).mp h5
        exact Or.inr ⟨i, gF v s, gC v s, q2, ⟨s, h1, hp, by omega, Or.inr ⟨h3, rfl, q3⟩⟩, h4⟩
  · rintro (h | ⟨i, b, c, h1, ⟨s, h2, h3, h4, h5⟩, h6⟩)
    · exact Or.inl h
    · have hb : ¬ bl.testBit s = true := by
        intro q
        unfold prB at h3
        rw [if_pos q] at h3
        omega
      have hp : prB v bl s = gC v s := by unfold prB; rw [if_neg hb]
      have hc : gC v s = c := by rw [← hp]; exact h3
      refine Or.inr ⟨s, h2, hb, ?_⟩
      rcases h5 with ⟨h5, h7, h8⟩ | ⟨h5, h7, h8⟩
      · exact Or.inl ⟨h5, by rw [hc, h7]; exact h6, (fol_bit _ _ _ _).mpr ⟨i, h21 i h1, h1, h8⟩⟩
      · exact Or.inr ⟨h5, by rw [hc, h7]; exact h6, (fol_bit _ _ _ _).mpr ⟨i, h21 i h1, h1, h8⟩⟩
theorem rC_21 {v : Gr} {A : Pa} {pr : Nat → Nat} {p c u s : Nat} (hv : wfG v) (hA : wfP A) (h : rC v A pr p c u s) : s < 21 := by
  rcases rC_inv h with ⟨h1, h2, h3⟩ | ⟨a, i, d, k, h1, h2, h3⟩
  · omega
  · exact (eR_b hv hA h3).2.2.1
theorem eR_9 {v : Gr} {A : Pa} {bl a i b j c : Nat} (hv : wfG v) (h : eR v A (prB v bl) a i b j c) : c ≤ 9 := by
  obtain ⟨s, h1, h2, h3⟩ := h
  rw [← h2]
  exact prB_le hv bl s h1
theorem whD_bit {w : Nat → Nat} {lv u k t : Nat} (h : (whD w lv u k).testBit t = true) : (w k).testBit t = true := by
  unfold whD at h
  split at h
  · rw [Nat.zero_testBit] at h; cases h
  · exact h
theorem whD_ne {w : Nat → Nat} {lv u k : Nat} (h : ¬ k = lv % 10 * 8 + u) : whD w lv u k = w k := if_neg h
theorem csI_up {v : Gr} {A : Pa} {pr : Nat → Nat} {p lv u : Nat} {o : Option Nat} (h : csI v A pr p lv u o) (hn : ∀ s, ¬ rM v A pr p lv u s) : csI v A pr p (lv + 1) u o := by
  cases o with
  | some d => exact ⟨by have := h.1; omega, h.2⟩
  | none =>
    intro d hd q
    by_cases e : d = lv
    · subst e
      obtain ⟨t, h1, h2⟩ := q
      obtain ⟨d', h3, h4⟩ := rC_min h1
      by_cases e : d' = d
      · subst e; exact hn t h4
      · exact h d' (by omega) ⟨t, h4.1, h2⟩
    · exact h d (by omega) q
set_option maxHeartbeats 1000000 in
theorem sJ_st {v : Gr} {A : Pa} (hv : wfG v) (hA : wfP A) (hP : inP v) {bl p lv u : Nat} (hp : p < gP v) {x : Sg} (hu : u < gP v) (h : sJ v A bl p lv u x) : sJ v A bl p lv (u + 1) (sRow1 v A bl lv u x) := by
  obtain ⟨h1, h2, h3, h4, h5, h6, h7, h8⟩ := h
  have hP8 := hv.1
  have hfr : ∀ s, (mx_wo (x.2.2.2 (lv % 10 * 8 + u)) (x.2.2.1 u)).testBit s = true ↔ rM v A (prB v bl) p lv u s := by
    intro s
    rw [mx_wo_bit, Bool.and_eq_true, Bool.not_eq_true']
    constructor
    · rintro ⟨q1, q2⟩
      refine ⟨h2 lv u s hu (Or.inr ⟨rfl, Nat.le_refl _⟩) q1, fun d hd q => ?_⟩
      have := (h1 u s hu).mpr ⟨d, Or.inl hd, q⟩
      rw [q2] at this
      cases this
    · intro q
      refine ⟨?_, ?_⟩
      · rcases rM_inv q with ⟨e1, e2, e3⟩ | ⟨a, i, d, k, e1, e2, e3⟩
        · subst e1; subst e2; subst e3
          have := h5 rfl (Nat.le_refl _)
          rw [show 0 % 10 * 8 + u = u by omega]
          exact this
        · have := eR_pos e3
          rw [e1]
          exact h4 a i d u s k e2 e3 (Or.inl (by omega)) (Or.inr ⟨e1.symm, Nat.le_refl _⟩)
      · cases e : (x.2.2.1 u).testBit s with
        | false => rfl
        | true =>
          obtain ⟨c, q1, q2⟩ := (h1 u s hu).mp e
          exact absurd q2 (q.2 c (by omega))
  unfold sRow1
  by_cases c0 : mx_wo (x.2.2.2 (lv % 10 * 8 + u)) (x.2.2.1 u) = 0
  · rw [if_pos c0]
    have hno : ∀ s, ¬ rM v A (prB v bl) p lv u s := fun s q => by
      have := (hfr s).mpr q
      rw [c0, Nat.zero_testBit] at this
      cases this
    refine ⟨fun u' s hu' => ?_, fun j u' s hu' q1 q2 => ?_, fun u' q1 q2 => ?_, fun a i c u' s k q1 q2 q3 q4 => ?_, fun q1 q2 => ?_, fun u' hu' => ?_, h7, fun c u' s q1 q2 q3 => ?_⟩
    · rw [h1 u' s hu']
      constructor
      · rintro ⟨c, q1, q2⟩; exact ⟨c, by omega, q2⟩
      · rintro ⟨c, q1, q2⟩
        by_cases e : c = lv ∧ u' = u
        · obtain ⟨e1, e2⟩ := e
          subst e1; subst e2
          obtain ⟨d, q3, q4⟩ := rC_min q2
          have : ¬ d = c := fun e => hno s (e ▸ q4)
          exact ⟨d, Or.inl (by omega), q4.1⟩
        · exact ⟨c, by omega, q2⟩
    · exact h2 j u' s hu' (by omega) (whD_bit q2)
    · show whD x.2.2.2 lv u (lv % 10 * 8 + u') = 0
      unfold whD
      split
      · rfl
      · exact h3 u' (by omega) q2
    · have hb := (eR_P hP q2).2
      have h9 := eR_9 hv q2
      have hpos := eR_pos q2
      show (whD x.2.2.2 lv u ((c + k) % 10 * 8 + u')).testBit s = true
      have hlt : ¬ (c = lv ∧ a = u) := fun e => hno i (e.1 ▸ e.2 ▸ q1)
      rw [whD_ne (by omega)]
      exact h4 a i c u' s k q1 q2 (by omega) (by omega)
    · show (whD x.2.2.2 lv u p).testBit 0 = true
      subst q1
      rw [whD_ne (by omega)]
      exact h5 rfl (by omega)
    · have h9 := h6 u' hu'
      by_cases e : u' = u
      · subst e
        rw [if_neg (by omega)] at h9
        rw [if_pos (by omega)]
        exact csI_up h9 hno
      · by_cases e2 : u' < u
        · rw [if_pos e2] at h9; rw [if_pos (by omega)]; exact h9
        · rw [if_neg e2] at h9; rw [if_neg (by omega)]; exact h9
    · by_cases e : c = lv ∧ u' = u
      · exact hno s (e.1 ▸ e.2 ▸ q3)
      · exact h8 c u' s q1 (by omega) q3
  · rw [if_neg c0]
    have hW := seW_eR (A := A) hv (bl := bl) (u := u) (level := lv) (w := whD x.2.2.2 lv u) (fun i hi => rC_21 hv hA ((hfr i).mp hi).1)
    refine ⟨fun u' s hu' => ?_, fun j u' s hu' q1 q2 => ?_, fun u' q1 q2 => ?_, fun a i c u' s k q1 q2 q3 q4 => ?_, fun q1 q2 => ?_, fun u' hu' => ?_, Nat.zero_le _, fun c u' s q1 q2 => ?_⟩
    · show (seR x.2.2.1 u _ u').testBit s = true ↔ _
      unfold seR
      by_cases e : u' = u
      · subst e
        rw [if_pos rfl, Nat.testBit_or, Bool.or_eq_true, h1 u' s hu', hfr s]
        constructor
        · rintro (⟨c, q1, q2⟩ | q)
          · exact ⟨c, by omega, q2⟩
          · exact ⟨lv, Or.inr ⟨rfl, Nat.lt_succ_self _⟩, q.1⟩
        · rintro ⟨c, q1, q2⟩
          obtain ⟨d, q3, q4⟩ := rC_min q2
          by_cases e : d = lv
          · subst e; exact Or.inr q4
          · exact Or.inl ⟨d, Or.inl (by omega), q4.1⟩
      · rw [if_neg e, h1 u' s hu']
        exact ⟨fun ⟨c, q1, q2⟩ => ⟨c, by omega, q2⟩, fun ⟨c, q1, q2⟩ => ⟨c, by omega, q2⟩⟩
    · rcases (hW _ _).mp q2 with q2 | ⟨i, b, c, q3, q4, q5⟩
      · exact h2 j u' s hu' (by omega) (whD_bit q2)
      · have hb := (eR_P hP q4).2
        have h9 := eR_9 hv q4
        have hpos := eR_pos q4
        have e1 : u' = b := by omega
        have e2 : j = lv + c := by omega
        subst e1; subst e2
        exact rC_st ((hfr i).mp q3).1 q4
    · refine zero_of_bits (fun t q => ?_)
      rcases (hW _ _).mp q with q3 | ⟨i, b, c, q3, q4, q5⟩
      · have q4 : whD x.2.2.2 lv u (lv % 10 * 8 + u') = 0 := by
          unfold whD
          split
          · rfl
          · exact h3 u' (by omega) q2
        rw [q4, Nat.zero_testBit] at q3
        cases q3
      · have hb := (eR_P hP q4).2
        have h9 := eR_9 hv q4
        have hpos := eR_pos q4
        omega
    · have hb := (eR_P hP q2).2
      have h9 := eR_9 hv q2
      have hpos := eR_pos q2
      refine (hW _ _).mpr ?_
      by_cases e : c = lv ∧ a = u
      · obtain ⟨e1, e2⟩ := e
        subst e1; subst e2
        exact Or.inr ⟨i, u', k, (hfr i).mpr q1, q2, rfl⟩
      · refine Or.inl ?_
        rw [whD_ne (by omega)]
        exact h4 a i c u' s k q1 q2 (by omega) (by omega)
    · refine (hW _ _).mpr (Or.inl ?_)
      subst q1
      rw [whD_ne (by omega)]
      exact h5 rfl (by omega)
    · have h9 := h6 u' hu'
      show csI v A (prB v bl) p _ u' (seC A x.2.1 u _ lv u')
      by_cases e : u' = u
      · subst e
        unfold seC
        rw [if_neg (by omega)] at h9
        rw [if_pos (show u' < u' + 1 by omega)]
        cases ec : x.2.1 u' with
        | some d =>
          rw [ec] at h9
          rw [if_neg (fun q => nomatch q.2.1)]
          exact ⟨by have := h9.1; omega, h9.2⟩
        | none =>
          rw [ec] at h9
          by_cases ca : mx_wo (x.2.2.2 (lv % 10 * 8 + u')) (x.2.2.1 u') &&& pAc A = 0
          · rw [if_neg (fun q => q.2.2 ca)]
            intro d hd q
            by_cases e : d = lv
            · subst e
              obtain ⟨t, q1, q2⟩ := q
              obtain ⟨d', q3, q4⟩ := rC_min q1
              by_cases e : d' = d
              · subst e
                exact and_ne.mpr ⟨t, (hfr t).mpr q4, q2⟩ ca
              · exact h9 d' (by omega) ⟨t, q4.1, q2⟩
            · exact h9 d (by omega) q
          · rw [if_pos ⟨rfl, rfl, ca⟩]
            obtain ⟨t, q1, q2⟩ := and_ne.mp ca
            exact ⟨Nat.lt_succ_self _, ⟨t, ((hfr t).mp q1).1, q2⟩, h9⟩
      · rw [show seC A x.2.1 u (mx_wo (x.2.2.2 (lv % 10 * 8 + u)) (x.2.2.1 u)) lv u' = x.2.1 u' from if_neg (fun q => e q.1)]
        by_cases e2 : u' < u
        · rw [if_pos e2] at h9; rw [if_pos (by omega)]; exact h9
        · rw [if_neg e2] at h9; rw [if_neg (by omega)]; exact h9
    · have q1 : lv + 1 ≤ c + 0 := q1
      omega
theorem sJ_row {v : Gr} {A : Pa} (hv : wfG v) (hA : wfP A) (hP : inP v) {bl p lv : Nat} (hp : p < gP v) {x : Sg} (h : sJ v A bl p lv 0 x) : ∀ u, u ≤ gP v → sJ v A bl p lv u (sRow v A bl lv u x)
  | 0, _ => h
  | u + 1, hu => sJ_st hv hA hP hp (by omega) (sJ_row hv hA hP hp h u (by omega))
theorem sI_row {v : Gr} {A : Pa} (hv : wfG v) (hA : wfP A) (hP : inP v) {bl p lv : Nat} (hp : p < gP v) {x : Sg} (h : sI v A bl p lv x) : sI v A bl p (lv + 1) (sRow v A bl lv (gP v) (x.1 + 1, x.2)) :=
  sJ_I hP hp (sJ_row hv hA hP hp (sI_J h) (gP v) (Nat.le_refl _))
theorem sI_run {v : Gr} {A : Pa} (hv : wfG v) (hA : wfP A) (hP : inP v) {bl p : Nat} (hp : p < gP v) (qq : Option Nat) : ∀ (f lv : Nat) (x : Sg), sI v A bl p lv x → ∃ l2, sI v A bl p l2 (sRun v A bl qq f lv x) ∧ l2 ≤ lv + f ∧ (l2 = lv + f ∨ 10 ≤ (sRun v A bl qq f lv x).1 ∨ sHit qq (sRun v A bl qq f lv x).2.1 = true)
  | 0, lv, x, h => ⟨lv, h, Nat.le_refl _, Or.inl rfl⟩
  | f + 1, lv, x, h => by
    have h1 := sI_row hv hA hP hp h
    unfold sRun
    by_cases c : x.1 < 10
    · rw [if_pos c]
      by_cases d : sHit qq (sRow v A bl lv (gP v) (x.1 + 1, x.2)).2.1 = true
      · rw [if_pos d]
        exact ⟨lv + 1, h1, by omega, Or.inr (Or.inr d)⟩
      · rw [if_neg d]
        obtain ⟨l2, h2, h3, h4⟩ := sI_run hv hA hP hp qq f (lv + 1) _ h1
        exact ⟨l2, h2, by omega, by rw [show lv + (f + 1) = lv + 1 + f by omega]; exact h4⟩
    · rw [if_neg c]
      exact ⟨lv, h, by omega, Or.inr (Or.inl (by omega))⟩
theorem sI_ini {v : Gr} {A : Pa} {bl p : Nat} (hp : p < gP v) (hv : wfG v) : sI v A bl p 0 (sIni p) := by
  have hP8 := hv.1
  refine ⟨fun u s hu => ?_, fun j u s q1 q2 hu hb => ?_, fun a i c u s k q => absurd q (Nat.not_lt_zero _), fun _ => ?_, fun u hu d hd => absurd hd (Nat.not_lt_zero _), Nat.le_refl _, fun c u s _ q => absurd q (Nat.not_lt_zero _)⟩
  · show (0 : Nat).testBit s = true ↔ _
    rw [Nat.zero_testBit]
    exact ⟨fun q => Bool.noConfusion q, fun ⟨c, q, _⟩ => absurd q (Nat.not_lt_zero _)⟩
  · rcases (whP_bit (fun _ => 0) 0 p 1 (j % 10 * 8 + u) s).mp hb with q | ⟨q3, q4⟩
    · rw [Nat.zero_testBit] at q; cases q
    · have e1 : j = 0 := by omega
      have e2 : u = p := by omega
      have e3 : s = 0 := by
        have : s < 1 := bit_lt (show 1 < 2 ^ 1 by decide) q4
        omega
      subst e1; subst e2; subst e3
      exact rC_0 _ _ _ _
  · exact (whP_bit (fun _ => 0) 0 p 1 p 0).mpr (Or.inr ⟨by omega, by decide⟩)
/-- the states of a target: a person, at an accepting position -/
def tgA (A : Pa) (q : Nat) : Nat → Nat → Prop := fun b j => b = q ∧ (pAc A).testBit j = true
theorem aC_iff (v : Gr) (A : Pa) (pr : Nat → Nat) (p d u : Nat) : aC v A pr p d u ↔ ∃ n, fR v A pr (tgA A u) n d p 0 := by
  constructor
  · rintro ⟨t, ⟨n, h1⟩, h2⟩
    exact ⟨n, (rf_iff _ _ _ _ _ _ _).mp ⟨u, t, h1, rfl, h2⟩⟩
  · rintro ⟨n, h⟩
    obtain ⟨a, i, h1, h2, h3⟩ := (rf_iff _ _ _ _ _ _ _).mpr h
    subst h2
    exact ⟨i, ⟨n, h1⟩, h3⟩
/-- the cost of the best path -/
noncomputable def bC (v : Gr) (A : Pa) (pr : Nat → Nat) (p q : Nat) : Option Nat := (bR v A pr (tgA A q) p 0).map Prod.fst
theorem bC_some {v : Gr} {A : Pa} {pr : Nat → Nat} {p q d : Nat} : bC v A pr p q = some d ↔ aC v A pr p d q ∧ ∀ e, e < d → ¬ aC v A pr p e q := by
  unfold bC
  constructor
  · intro h
    cases e : bR v A pr (tgA A q) p 0 with
    | none => rw [e] at h; cases h
    | some y =>
      rw [e] at h
      have h : y.1 = d := by simpa using h
      obtain ⟨h1, h2⟩ := bR_some e
      refine ⟨(aC_iff _ _ _ _ _ _).mpr ⟨y.2, h ▸ h1⟩, fun c hc q => ?_⟩
      obtain ⟨n, hn⟩ := (aC_iff _ _ _ _ _ _).mp q
      have := h2 n c hn
      omega
  · rintro ⟨h1, h2⟩
    obtain ⟨n, hn⟩ := (aC_iff _ _ _ _ _ _).mp h1
    cases e : bR v A pr (tgA A q) p 0 with
    | none => exact absurd hn (bR_none e n d)
    | some y =>
      obtain ⟨h3, h4⟩ := bR_some e
      have h5 := h4 n d hn
      have h6 : ¬ y.1 < d := fun c => h2 _ c ((aC_iff _ _ _ _ _ _).mpr ⟨_, h3⟩)
      show some y.1 = some d
      rw [show y.1 = d by omega]
theorem bC_none {v : Gr} {A : Pa} {pr : Nat → Nat} {p q : Nat} : bC v A pr p q = none ↔ ∀ d, ¬ aC v A pr p d q := by
  unfold bC
  constructor
  · intro h d hd
    obtain ⟨n, hn⟩ := (aC_iff _ _ _ _ _ _).mp hd
    cases e : bR v A pr (tgA A q) p 0 with
    | none => exact bR_none e n d hn
    | some y => rw [e] at h; cases h
  · intro h
    cases e : bR v A pr (tgA A q) p 0 with
    | none => rfl
    | some y => exact absurd ((aC_iff _ _ _ _ _ _).mpr ⟨_, (bR_some e).1⟩) (h _)
theorem bC_lt {v : Gr} {A : Pa} {pr : Nat → Nat} {p q d : Nat} (hv : wfG v) (hA : wfP A) (hpr : ∀ s, s < gN v → pr s ≤ 9) (hp : p < 8) (h : bC v A pr p q = some d) : d ≤ 1503 := by
  unfold bC at h
  cases e : bR v A pr (tgA A q) p 0 with
  | none => rw [e] at h; cases h
  | some y =>
    rw [e] at h
    have h : y.1 = d := by simpa using h
    rw [← h]
    exact bR_c hv hA hpr hp (by decide) e
theorem rM_lt {v : Gr} {A : Pa} (hv : wfG v) (hA : wfP A) {bl p c u s : Nat} (hp : p < 8) (h : rM v A (prB v bl) p c u s) : c ≤ 1503 := by
  obtain ⟨⟨n, h1⟩, h2⟩ := h
  have h3 := (rf_iff v A (prB v bl) (fun b j => b = u ∧ j = s) p n c).mp ⟨u, s, h1, rfl, rfl⟩
  cases e : bR v A (prB v bl) (fun b j => b = u ∧ j = s) p 0 with
  | none => exact absurd h3 (bR_none e n c)
  | some y =>
    have h4 := bR_c hv hA (fun s hs => prB_le hv bl s hs) hp (by decide) e
    obtain ⟨h5, h6⟩ := bR_some e
    obtain ⟨a, i, q1, q2, q3⟩ := (rf_iff v A (prB v bl) (fun b j => b = u ∧ j = s) p _ _).mpr h5
    subst q2; subst q3
    have h7 : ¬ y.1 < c := fun q => h2 _ q ⟨_, q1⟩
    have h8 := h6 n c h3
    omega
theorem sI_all {v : Gr} {A : Pa} (hv : wfG v) (hA : wfP A) (hP : inP v) {bl p lv : Nat} (hp : p < gP v) {x : Sg} (h : sI v A bl p lv x) (he : lv = 1512 ∨ 10 ≤ x.1) : ∀ (c u s : Nat), rM v A (prB v bl) p c u s → c < lv := by
  intro c
  induction c using Nat.strongRecOn with
  | ind c ih =>
    intro u s hm
    have hP8 := hv.1
    have hb := rM_lt hv hA (show p < 8 by omega) hm
    rcases he with he | he
    · omega
    · obtain ⟨h1, h2, h3, h4, h5, h6, h7⟩ := h
      rcases Nat.lt_or_ge c lv with q | q
      · exact q
      · rcases rM_inv hm with ⟨e1, e2, e3⟩ | ⟨a, i, d, k, e1, e2, e3⟩
        · omega
        · have hk := eR_pos e3
          have hk9 := eR_9 hv e3
          have hd := ih d (by omega) a i e2
          exact absurd e2 (h7 d a i (by omega) hd)
theorem csI_bC {v : Gr} {A : Pa} {pr : Nat → Nat} {p lv u : Nat} {o : Option Nat} (h : csI v A pr p lv u o) (hall : ∀ c, bC v A pr p u = some c → c < lv) : o = bC v A pr p u := by
  cases o with
  | some d => exact (bC_some.mpr h.2).symm
  | none =>
    cases e : bC v A pr p u with
    | none => rfl
    | some c => exact absurd (bC_some.mp e).1 (h c (hall c e))
theorem bC_M {v : Gr} {A : Pa} {pr : Nat → Nat} {p u c : Nat} (h : bC v A pr p u = some c) : ∃ t, rM v A pr p c u t := by
  obtain ⟨⟨t, h1, h2⟩, h3⟩ := bC_some.mp h
  exact ⟨t, h1, fun d hd q => h3 d hd ⟨t, q, h2⟩⟩
theorem sCs_all {v : Gr} {A : Pa} (hv : wfG v) (hA : wfP A) (hP : inP v) {bl p u : Nat} (hp : p < gP v) (hu : u < gP v) : sCs v A p none bl 1512 u = bC v A (prB v bl) p u := by
  obtain ⟨l2, h1, h2, h3⟩ := sI_run hv hA hP hp none 1512 0 _ (sI_ini (A := A) (bl := bl) hp hv)
  have h4 := sI_all hv hA hP hp h1 (by rcases h3 with h3 | h3 | h3; (exact Or.inl (by omega)); (exact Or.inr h3); (cases h3))
  refine csI_bC (h1.2.2.2.2.1 u hu) (fun c hc => ?_)
  obtain ⟨t, ht⟩ := bC_M hc
  exact h4 c u t ht
theorem sRc_all {v : Gr} {A : Pa} (hv : wfG v) (hA : wfP A) (hP : inP v) {bl p u : Nat} (hp : p < gP v) (hu : u < gP v) (s : Nat) : ((sFin v A p none bl 1512).2.2.1 u).testBit s = true ↔ ∃ c, rC v A (prB v bl) p c u s := by
  obtain ⟨l2, h1, h2, h3⟩ := sI_run hv hA hP hp none 1512 0 _ (sI_ini (A := A) (bl := bl) hp hv)
  have h4 := sI_all hv hA hP hp h1 (by rcases h3 with h3 | h3 | h3; (exact Or.inl (by omega)); (exact Or.inr h3); (cases h3))
  show ((sRun v A bl none 1512 0 (sIni p)).2.2.1 u).testBit s = true ↔ _
  rw [h1.1 u s hu]
  constructor
  · rintro ⟨c, q1, q2⟩; exact ⟨c, q2⟩
  · rintro ⟨c, q⟩
    obtain ⟨d, q1, q2⟩ := rC_min q
    exact ⟨d, h4 d u s q2, q2.1⟩
def cutO (lim : Nat) (o : Option Nat) : Option Nat := match o with
  | none => none
  | some c => if c < lim then some c else none
theorem sCs_one {v : Gr} {A : Pa} (hv : wfG v) (hA : wfP A) (hP : inP v) {bl p r lim : Nat} (hp : p < gP v) (hr : r < gP v) : sCs v A p (some r) bl lim r = cutO lim (bC v A (prB v bl) p r) := by
  obtain ⟨l2, h1, h2, h3⟩ := sI_run hv hA hP hp (some r) lim 0 _ (sI_ini (A := A) (bl := bl) hp hv)
  have h5 := h1.2.2.2.2.1 r hr
  show (sRun v A bl (some r) lim 0 (sIni p)).2.1 r = _
  cases e : (sRun v A bl (some r) lim 0 (sIni p)).2.1 r with
  | some d =>
    rw [e] at h5
    rw [bC_some.mpr h5.2]
    have := h5.1
    show some d = if d < lim then some d else none
    rw [if_pos (by omega)]
  | none =>
    rw [e] at h5
    cases ec : bC v A (prB v bl) p r with
    | none => rfl
    | some c =>
      show none = if c < lim then some c else none
      by_cases q : c < lim
      · exfalso
        obtain ⟨t, ht⟩ := bC_M ec
        have ha := (bC_some.mp ec).1
        rcases h3 with h3 | h3 | h3
        · exact h5 c (by omega) ha
        · exact h5 c (sI_all hv hA hP hp h1 (Or.inr h3) c r t ht) ha
        · have h3 : ((sRun v A bl (some r) lim 0 (sIni p)).2.1 r).isSome = true := h3
          rw [e] at h3
          cases h3
      · rw [if_neg q]
theorem cutO_all {v : Gr} {A : Pa} {pr : Nat → Nat} {p q : Nat} (hv : wfG v) (hA : wfP A) (hpr : ∀ s, s < gN v → pr s ≤ 9) (hp : p < 8) : cutO 1512 (bC v A pr p q) = bC v A pr p q := by
  cases e : bC v A pr p q with
  | none => rfl
  | some c =>
    have := bC_lt hv hA hpr hp e
    exact if_pos (by omega)
