/-! THE REFERENCE: paths -/
/-- a sum over the goings from o on -/
def smF (f : Nat → Nat) : Nat → Nat → Nat
  | 0, _ => 0
  | k + 1, o => f o + smF f k (o + 1)
theorem smF_n {f : Nat → Nat} {M o : Nat} (ho : o < M) : smF f (M - o) o = f o + smF f (M - (o + 1)) (o + 1) := by
  rw [show M - o = (M - (o + 1)) + 1 by omega, smF]
theorem smF_snoc (f : Nat → Nat) : ∀ k o, smF f (k + 1) o = smF f k o + f (o + k)
  | 0, o => by show f o + 0 = 0 + f (o + 0); rw [Nat.add_zero, Nat.zero_add, Nat.add_zero]
  | k + 1, o => by
    show f o + smF f (k + 1) (o + 1) = f o + smF f k (o + 1) + f (o + (k + 1))
    rw [smF_snoc f k (o + 1), show o + 1 + k = o + (k + 1) by omega, Nat.add_assoc]
theorem smF_S (f : Nat → Nat → Nat) : ∀ n, smF (fun o => f (o / 2) (o % 2)) (2 * n) 0 = smS f n
  | 0 => rfl
  | n + 1 => by
    rw [show 2 * (n + 1) = 2 * n + 1 + 1 by omega, smF_snoc, smF_snoc, smF_S f n]
    show smS f n + f ((0 + 2 * n) / 2) ((0 + 2 * n) % 2) + f ((0 + (2 * n + 1)) / 2) ((0 + (2 * n + 1)) % 2) = smS f n + f n 0 + f n 1
    rw [show (0 + 2 * n) / 2 = n by omega, show (0 + 2 * n) % 2 = 0 by omega, show (0 + (2 * n + 1)) / 2 = n by omega, show (0 + (2 * n + 1)) % 2 = 1 by omega]
abbrev cfO (v : Gr) (A : Pa) (q g here ps o : Nat) : Nat := cfT v A q g here ps (o / 2) (o % 2)
/-- what is still to be counted at one level -/
def cR (v : Gr) (A : Pa) (q : Nat) : Nat → Nat → Nat → Nat → Nat
  | 0, _, _, _ => 0
  | g + 1, here, ps, o => smF (cfO v A q g here ps) (2 * gN v - o) o
abbrev hitC (A : Pa) (q here ps : Nat) : Nat := if here = q ∧ ¬ ps &&& pAc A = 0 then 1 else 0
theorem cF_R (v : Gr) (A : Pa) (q : Nat) : ∀ g here ps, cF v A q g here ps = hitC A q here ps + cR v A q g here ps 0
  | 0, _, _ => rfl
  | g + 1, here, ps => by
    show hitC A q here ps + smS (fun s d => cfT v A q g here ps s d) (gN v) = hitC A q here ps + smF (cfO v A q g here ps) (2 * gN v - 0) 0
    rw [Nat.sub_zero]
    exact congrArg _ (smF_S (fun s d => cfT v A q g here ps s d) (gN v)).symm
theorem cR_0 {v : Gr} {A : Pa} {q g here ps o : Nat} (h : 2 * gN v ≤ o ∨ g = 0) : cR v A q g here ps o = 0 := by
  cases g with
  | zero => rfl
  | succ g =>
    rcases h with h | h
    · show smF _ (2 * gN v - o) o = 0
      rw [show 2 * gN v - o = 0 by omega]
      rfl
    · cases h
theorem cR_n {v : Gr} {A : Pa} {q g here ps o : Nat} (ho : o < 2 * gN v) (h : cfO v A q g here ps o = 0) : cR v A q (g + 1) here ps o = cR v A q (g + 1) here ps (o + 1) := by
  show smF _ (2 * gN v - o) o = smF _ (2 * gN v - (o + 1)) (o + 1)
  rw [smF_n ho, h, Nat.zero_add]
theorem cR_y {v : Gr} {A : Pa} {q g here ps o h2 p2 : Nat} (ho : o < 2 * gN v) (h : cfO v A q g here ps o = cF v A q g h2 p2) : cR v A q (g + 1) here ps o = hitC A q h2 p2 + cR v A q g h2 p2 0 + cR v A q (g + 1) here ps (o + 1) := by
  show smF _ (2 * gN v - o) o = _ + smF _ (2 * gN v - (o + 1)) (o + 1)
  rw [smF_n ho, h, cF_R]
theorem cfO_no {v : Gr} {A : Pa} {q g here ps o : Nat} (h : ¬ ((if o % 2 = 0 then gF v (o / 2) else gT v (o / 2)) = here ∧ ¬ pFol A ps &&& pEn A (o % 2) (gK v (o / 2)) = 0)) : cfO v A q g here ps o = 0 := if_neg h
theorem cfO_yes {v : Gr} {A : Pa} {q g here ps o : Nat} (h : (if o % 2 = 0 then gF v (o / 2) else gT v (o / 2)) = here ∧ ¬ pFol A ps &&& pEn A (o % 2) (gK v (o / 2)) = 0) : cfO v A q g here ps o = cF v A q g (if o % 2 = 0 then gT v (o / 2) else gF v (o / 2)) (pFol A ps &&& pEn A (o % 2) (gK v (o / 2))) := if_pos h
section
variable {v : Gr} {A : Pa} {q g here ps o s : Nat}
theorem cfO_0n (hd : o % 2 = 0) (hs : o / 2 = s) (h : ¬ (gF v s = here ∧ ¬ pFol A ps &&& pEn A 0 (gK v s) = 0)) : cfO v A q g here ps o = 0 := cfO_no (by rw [hs, hd]; exact h)
theorem cfO_1n (hd : ¬ o % 2 = 0) (hs : o / 2 = s) (h : ¬ (gT v s = here ∧ ¬ pFol A ps &&& pEn A 1 (gK v s) = 0)) : cfO v A q g here ps o = 0 := cfO_no (by rw [hs, show o % 2 = 1 by omega]; exact h)
theorem cfO_0y (hd : o % 2 = 0) (hs : o / 2 = s) (h : gF v s = here ∧ ¬ pFol A ps &&& pEn A 0 (gK v s) = 0) : cfO v A q g here ps o = cF v A q g (gT v s) (pFol A ps &&& pEn A 0 (gK v s)) := by
  have h1 := cfO_yes (v := v) (A := A) (q := q) (g := g) (here := here) (ps := ps) (o := o) (by rw [hs, hd]; exact h)
  rw [hs, hd] at h1
  exact h1
theorem cfO_1y (hd : ¬ o % 2 = 0) (hs : o / 2 = s) (h : gT v s = here ∧ ¬ pFol A ps &&& pEn A 1 (gK v s) = 0) : cfO v A q g here ps o = cF v A q g (gF v s) (pFol A ps &&& pEn A 1 (gK v s)) := by
  have hd : o % 2 = 1 := by omega
  have h1 := cfO_yes (v := v) (A := A) (q := q) (g := g) (here := here) (ps := ps) (o := o) (by rw [hs, hd]; exact h)
  rw [hs, hd] at h1
  exact h1
end
/-- the rest of all levels below e -/
def tsR (v : Gr) (A : Pa) (q n : Nat) (w s t : Nat → Nat) : Nat → Nat
  | 0 => 0
  | e + 1 => tsR v A q n w s t e + cR v A q (n - e) (w e) (s e) (t e)
theorem tsR_c {v : Gr} {A : Pa} {q n : Nat} {w s t w' s' t' : Nat → Nat} : ∀ e, (∀ l, l < e → w' l = w l ∧ s' l = s l ∧ t' l = t l) → tsR v A q n w' s' t' e = tsR v A q n w s t e
  | 0, _ => rfl
  | e + 1, h => by
    obtain ⟨h1, h2, h3⟩ := h e (Nat.lt_succ_self e)
    show tsR v A q n w' s' t' e + cR v A q (n - e) (w' e) (s' e) (t' e) = tsR v A q n w s t e + cR v A q (n - e) (w e) (s e) (t e)
    rw [tsR_c e (fun l hl => h l (by omega)), h1, h2, h3]
/-- how many rounds the loop still makes, at a level and in all -/
def tzN (N : Nat) : Nat → Nat → Nat
  | 0, _ => 1
  | g + 1, o => (N - o) * (1 + tzN N g 0) + 1
def tsN (N n : Nat) (t : Nat → Nat) : Nat → Nat
  | 0 => 0
  | e + 1 => tsN N n t e + tzN N (n - e) (t e)
theorem tzN_1 (N : Nat) : ∀ g o, 1 ≤ tzN N g o
  | 0, _ => Nat.le_refl _
  | g + 1, o => Nat.le_add_left _ _
theorem tzN_n {N g o : Nat} (ho : o < N) : tzN N (g + 1) o = tzN N (g + 1) (o + 1) + (1 + tzN N g 0) := by
  show (N - o) * (1 + tzN N g 0) + 1 = (N - (o + 1)) * (1 + tzN N g 0) + 1 + (1 + tzN N g 0)
  rw [show N - o = (N - (o + 1)) + 1 by omega, Nat.succ_mul]
  omega
theorem tsN_c {N n : Nat} {t t' : Nat → Nat} : ∀ e, (∀ l, l < e → t' l = t l) → tsN N n t' e = tsN N n t e
  | 0, _ => rfl
  | e + 1, h => by
    show tsN N n t' e + tzN N (n - e) (t' e) = tsN N n t e + tzN N (n - e) (t e)
    rw [tsN_c e (fun l hl => h l (by omega)), h e (Nat.lt_succ_self e)]
/-- one more tried at the level d, nothing gone -/
theorem ts_no {v : Gr} {A : Pa} {q n d g : Nat} {w s t t' : Nat → Nat} (hg : n - d = g + 1) (ht : ∀ l, l ≠ d → t' l = t l) (hd : t' d = t d + 1) (ho : t d < 2 * gN v) (h : cfO v A q g (w d) (s d) (t d) = 0) : tsR v A q n w s t' (d + 1) = tsR v A q n w s t (d + 1) ∧ tsN (2 * gN v) n t' (d + 1) < tsN (2 * gN v) n t (d + 1) := by
  have e1 := tsR_c (v := v) (A := A) (q := q) (n := n) (w := w) (s := s) (t := t) (w' := w) (s' := s) (t' := t') d (fun l hl => ⟨rfl, rfl, ht l (by omega)⟩)
  have e2 := tsN_c (N := 2 * gN v) (n := n) (t := t) (t' := t') d (fun l hl => ht l (by omega))
  constructor
  · show tsR v A q n w s t' d + cR v A q (n - d) (w d) (s d) (t' d) = tsR v A q n w s t d + cR v A q (n - d) (w d) (s d) (t d)
    rw [e1, hd, hg, cR_n ho h]
  · show tsN (2 * gN v) n t' d + tzN (2 * gN v) (n - d) (t' d) < tsN (2 * gN v) n t d + tzN (2 * gN v) (n - d) (t d)
    rw [e2, hd, hg, tzN_n ho]
    omega
/-- one gone: a new level -/
theorem ts_yes {v : Gr} {A : Pa} {q n d g h2 p2 : Nat} {w s t w' s' t' : Nat → Nat} (hg : n - d = g + 1) (hw : ∀ l, l ≠ d + 1 → w' l = w l ∧ s' l = s l) (ht : ∀ l, l ≠ d → l ≠ d + 1 → t' l = t l) (hd : t' d = t d + 1) (hw1 : w' (d + 1) = h2) (hs1 : s' (d + 1) = p2) (ht1 : t' (d + 1) = 0) (ho : t d < 2 * gN v) (h : cfO v A q g (w d) (s d) (t d) = cF v A q g h2 p2) : hitC A q h2 p2 + tsR v A q n w' s' t' (d + 2) = tsR v A q n w s t (d + 1) ∧ tsN (2 * gN v) n t' (d + 2) < tsN (2 * gN v) n t (d + 1) := by
  have e1 := tsR_c (v := v) (A := A) (q := q) (n := n) (w := w) (s := s) (t := t) (w' := w') (s' := s') (t' := t') d (fun l hl => ⟨(hw l (by omega)).1, (hw l (by omega)).2, ht l (by omega) (by omega)⟩)
  have e2 := tsN_c (N := 2 * gN v) (n := n) (t := t) (t' := t') d (fun l hl => ht l (by omega) (by omega))
  have ewd := hw d (by omega)
  have hg2 : n - (d + 1) = g := by omega
  constructor
  · show hitC A q h2 p2 + (tsR v A q n w' s' t' d + cR v A q (n - d) (w' d) (s' d) (t' d) + cR v A q (n - (d + 1)) (w' (d + 1)) (s' (d + 1)) (t' (d + 1))) = tsR v A q n w s t d + cR v A q (n - d) (w d) (s d) (t d)
    rw [e1, hd, ewd.1, ewd.2, hw1, hs1, ht1, hg2, hg, cR_y ho h]
    omega
  · show tsN (2 * gN v) n t' d + tzN (2 * gN v) (n - d) (t' d) + tzN (2 * gN v) (n - (d + 1)) (t' (d + 1)) < tsN (2 * gN v) n t d + tzN (2 * gN v) (n - d) (t d)
    rw [e2, hd, ht1, hg2, hg, tzN_n ho]
    omega
theorem ts_pop {v : Gr} {A : Pa} {q n d : Nat} {w s t t' : Nat → Nat} (ht : ∀ l, l ≠ d → t' l = t l) (h : 2 * gN v ≤ t d ∨ n - d = 0) : tsR v A q n w s t' d = tsR v A q n w s t (d + 1) ∧ tsN (2 * gN v) n t' d < tsN (2 * gN v) n t (d + 1) := by
  have e1 := tsR_c (v := v) (A := A) (q := q) (n := n) (w := w) (s := s) (t := t) (w' := w) (s' := s) (t' := t') d (fun l hl => ⟨rfl, rfl, ht l (by omega)⟩)
  have e2 := tsN_c (N := 2 * gN v) (n := n) (t := t) (t' := t') d (fun l hl => ht l (by omega))
  constructor
  · show _ = tsR v A q n w s t d + cR v A q (n - d) (w d) (s d) (t d)
    rw [e1, cR_0 h, Nat.add_zero]
  · show _ < tsN (2 * gN v) n t d + tzN (2 * gN v) (n - d) (t d)
    have := tzN_1 (2 * gN v) (n - d) (t d)
    omega
theorem fl_paths_0 {z : Zs} {p q n : Int32} (h : fl_paths z p q n = 0) : ((0 ≤ p.toInt ∧ p.toInt < (gP (zG z) : Int)) ∧ (0 ≤ q.toInt ∧ q.toInt < (gP (zG z) : Int))) ∧ (0 ≤ n.toInt ∧ n.toInt ≤ 4) := by
  unfold fl_paths at h
  split at h
  · cases h
  · next c1 =>
    split at h
    · cases h
    · next c2 => exact ⟨Classical.not_not.mp c1, Classical.not_not.mp c2⟩
theorem fl_paths_le (z : Zs) (p q n : Int32) : fl_paths z p q n ≤ 2 := by
  unfold fl_paths
  split
  · decide
  · split <;> decide
theorem le4 {x : Int} (h : 0 ≤ x ∧ x ≤ 4) : x.toNat ≤ 4 := by omega
/-- the level: one less than e -/
def dpI (e : Nat) : Int32 := nI e - nI 1
theorem dpI_s (d : Nat) : dpI (d + 1) = nI d := by
  unfold dpI
  rw [nI_sub (by omega), Nat.add_sub_cancel]
theorem dpI_p (d : Nat) : nI d + Int32.ofInt (-1) = dpI d := by
  unfold dpI
  rw [Int32.sub_eq_add_neg]
  exact congrArg (fun x => nI d + x) (by decide : Int32.ofInt (-1) = - nI 1)
theorem dpI_lt {e : Nat} (h : e < 2 ^ 31) : (dpI e).toInt < 0 ↔ e = 0 := by
  cases e with
  | zero => exact ⟨fun _ => rfl, fun _ => by decide⟩
  | succ e =>
    rw [dpI_s, nI_toInt (by omega)]
    omega
/-- the stack -/
def skN (I : mx_I) (m N e : Nat) (w s t : Nat → Nat) : Prop := ∀ l, l < e → I (m + 20) l = nI (w l) ∧ I (m + 21) l = nI (s l) ∧ I (m + 22) l = nI (t l) ∧ w l < 8 ∧ s l < 2 ^ 21 ∧ t l ≤ N

theorem sk_1 {I : mx_I} {m N p : Nat} (hp : p < 8) : skN (mx_u (mx_u (mx_u I (m + 20) 0 (nI p)) (m + 21) 0 (nI 1)) (m + 22) 0 (nI 0)) m N 1 (fun _ => p) (fun _ => 1) (fun _ => 0) := fun l hl => by
  obtain rfl : l = 0 := by omega
  exact ⟨by rw [mx_u_at, if_neg (by omega), mx_u_at, if_neg (by omega), mx_u_at, if_pos ⟨rfl, rfl⟩], by rw [mx_u_at, if_neg (by omega), mx_u_at, if_pos ⟨rfl, rfl⟩], by rw [mx_u_at, if_pos ⟨rfl, rfl⟩], hp, (by decide : 1 < 2 ^ 21), Nat.zero_le N⟩
theorem sk_pop {I : mx_I} {m N d : Nat} {w s t : Nat → Nat} (h : skN I m N (d + 1) w s t) : skN (mx_u I (m + 22) d (nI (t d + 1))) m N d w s (upF t d (t d + 1)) := fun l hl => by
  obtain ⟨h1, h2, h3, h4, h5, h6⟩ := h l (by omega)
  rw [upF_n (show ¬ l = d by omega)]
  exact ⟨by rw [mx_u_at, if_neg (by omega)]; exact h1, by rw [mx_u_at, if_neg (by omega)]; exact h2, by rw [mx_u_at, if_neg (by omega)]; exact h3, h4, h5, h6⟩
theorem sk_no {I : mx_I} {m N d : Nat} {w s t : Nat → Nat} (h : skN I m N (d + 1) w s t) (ht : t d + 1 ≤ N) : skN (mx_u I (m + 22) d (nI (t d + 1))) m N (d + 1) w s (upF t d (t d + 1)) := fun l hl => by
  obtain ⟨h1, h2, h3, h4, h5, h6⟩ := h l hl
  refine ⟨by rw [mx_u_at, if_neg (by omega)]; exact h1, by rw [mx_u_at, if_neg (by omega)]; exact h2, ?_, h4, h5, ?_⟩
  · by_cases e : l = d
    · rw [e, upF_s, mx_u_at, if_pos ⟨rfl, rfl⟩]
    · rw [upF_n e, mx_u_at, if_neg (by omega)]; exact h3
  · by_cases e : l = d
    · rw [e, upF_s]; exact ht
    · rw [upF_n e]; exact h6
theorem sk_yes {I : mx_I} {m N d h2 p2 : Nat} {w s t : Nat → Nat} (h : skN I m N (d + 1) w s t) (ht : t d + 1 ≤ N) (hh : h2 < 8) (hp : p2 < 2 ^ 21) : skN (mx_u (mx_u (mx_u (mx_u I (m + 22) d (nI (t d + 1))) (m + 20) (d + 1) (nI h2)) (m + 21) (d + 1) (nI p2)) (m + 22) (d + 1) (nI 0)) m N (d + 2) (upF w (d + 1) h2) (upF s (d + 1) p2) (upF (upF t d (t d + 1)) (d + 1) 0) := fun l hl => by
  by_cases e : l = d + 1
  · subst e
    rw [upF_s, upF_s, upF_s]
    refine ⟨?_, ?_, ?_, hh, hp, Nat.zero_le N⟩
    · rw [mx_u_at, if_neg (by omega), mx_u_at, if_neg (by omega), mx_u_at, if_pos ⟨rfl, rfl⟩]
    · rw [mx_u_at, if_neg (by omega), mx_u_at, if_pos ⟨rfl, rfl⟩]
    · rw [mx_u_at, if_pos ⟨rfl, rfl⟩]
  · obtain ⟨h1, h2', h3, h4, h5, h6⟩ := sk_no h ht l (by omega)
    rw [upF_n e, upF_n e, upF_n e]
    refine ⟨?_, ?_, ?_, h4, h5, h6⟩
    · rw [mx_u_at, if_neg (by omega), mx_u_at, if_neg (by omega), mx_u_at, if_neg (by omega)]; exact h1
    · rw [mx_u_at, if_neg (by omega), mx_u_at, if_neg (by omega), mx_u_at, if_neg (by omega)]; exact h2'
    · rw [mx_u_at, if_neg (by omega), mx_u_at, if_neg (by omega), mx_u_at, if_neg (by omega)]; exact h3

set_option maxHeartbeats 4000000 in
set_option maxRecDepth 100000 in
theorem mt_paths (G : mx_G) (I : mx_I) (m : Nat) (z : Zs) (hW : mW G I m z) (p q n : Int32) : mx_CTi yX10_paths mX10_paths 5 [.ref m, .int p, .int q, .int n] G I (fun rv I1 => I1 m 0 = nI (fl_paths z p q n) ∧ mx_fr I I1 m (m + 23) ∧ ((fl_paths z p q n) = 0 → rv = some (.int (nI (an_paths z p.toInt.toNat q.toInt.toNat n.toInt.toNat))) ∧ mW G I1 m (z)) ∧ (¬ (fl_paths z p q n) = 0 → (∃ w9, rv = some (.int w9)) ∧ mW G I1 m z)) := by
  refine mx_start (k := 7) (by decide) rfl rfl (fun h => nomatch h) (Nat.le_of_ble_eq_true rfl) ?_
  show mx_V mX10_paths mx_S0 5 0 0 0 [some (.ref m), some (.int p), some (.int q), some (.int n), none, none, none, none, none, none, none] [] G I (fun rv Gz Iz => (fun rv I1 => I1 m 0 = nI (fl_paths z p q n) ∧ mx_fr I I1 m (m + 23) ∧ ((fl_paths z p q n) = 0 → rv = some (.int (nI (an_paths z p.toInt.toNat q.toInt.toNat n.toInt.toNat))) ∧ mW G I1 m (z)) ∧ (¬ (fl_paths z p q n) = 0 → (∃ w9, rv = some (.int w9)) ∧ mW G I1 m z)) rv Iz ∧ Gz = G) (fun _ _ _ => False)
  have hs0 : oMD G m := hW.1
  have hs1 := hs0
  have hW9 := hW
  obtain ⟨tgm, -, -, ⟨r_now, t_now, l_now⟩, -⟩ := hs1
  obtain ⟨-, hsz, ⟨hn110, h2, htx, htc⟩, ⟨hvp, hN24⟩, ⟨hc14, h8, hdi⟩, hke⟩ := hW9
  have hN24 : gN (zG z) ≤ 24 := hN24
  have hgw : wfG (zG z) := hvp.1.1
  have hP8 : gP (zG z) ≤ 8 := hgw.1
  have hgb : ∀ s, s < gN (zG z) → gF (zG z) s < 8 ∧ gK (zG z) s < 4 ∧ gT (zG z) s < 8 ∧ 1 ≤ gC (zG z) s ∧ gC (zG z) s ≤ 9 := hgw.2.2
  have hn40 := hvp.2.2.2.1
  have J44 : ∀ (_ : Unit), mx_V mX10_paths mx_S0 5 0 0 44 [some (.ref m), some (.int p), some (.int q), some (.int n), none, none, none, none, none, none, none] [.int (nI (fl_paths z p q n)), .ref m] G I (fun rv Gz Iz => (fun rv I1 => I1 m 0 = nI (fl_paths z p q n) ∧ mx_fr I I1 m (m + 23) ∧ ((fl_paths z p q n) = 0 → rv = some (.int (nI (an_paths z p.toInt.toNat q.toInt.toNat n.toInt.toNat))) ∧ mW G I1 m (z)) ∧ (¬ (fl_paths z p q n) = 0 → (∃ w9, rv = some (.int w9)) ∧ mW G I1 m z)) rv Iz ∧ Gz = G) (fun _ _ _ => False) := by
    intro _ 
    refine mx_callVi (ci := 10) (As := [.int (nI (fl_paths z p q n))]) (rest := []) dX10_paths_44 (mt_refused G I m hs0 (fl_paths z p q n) (Nat.lt_of_le_of_lt (fl_paths_le _ _ _ _) (by decide))) km_X10_refused rfl k_1122 k_1124 k_29 (by assumption) rfl rfl (Nat.le_of_ble_eq_true rfl) (by decide) (fun r1 Ir h2 => ?_)
    obtain ⟨e9, er⟩ := h2
    subst e9
    have hr0 : Ir m 0 = nI (fl_paths z p q n) := by rw [er, mx_u_at, if_pos ⟨rfl, rfl⟩]
    have hrf : mx_fr I Ir m (m + 23) := by rw [er]; exact (mx_fr.rf _ _ _).u (by omega)
    have hW1 : mW G Ir m z := hW.k (fun b k q => by rw [er, mx_u_at, if_neg (by omega)])
    clear er
    refine mx_ifB_eq 52 dX10_paths_47 (by decide) (fun c47 => ?_) (fun c47 => ?_)
    · skip
      have hm0 : fl_paths z p q n = 0 := by omega
      have k1 := fl_paths_0 hm0
      clear hsz h2 htx htc hvp hdi hke h8
      have hs0 : oMD G m := hW1.1
      have hs1 := hs0
      have hW9 := hW1
      obtain ⟨tgm, -, -, ⟨r_now, t_now, l_now⟩, -, -, -, -, -, -, -, -, -, -, -, -, -, -, ⟨r_on, t_on, l_on⟩, ⟨r_back, t_back, l_back⟩, ⟨r_who, t_who, l_who⟩, ⟨r_sets, t_sets, l_sets⟩, ⟨r_tried, t_tried, l_tried⟩⟩ := hs1
      obtain ⟨-, hsz, ⟨hn110, h2, htx, htc⟩, ⟨hvp, hN24⟩, ⟨hc14, h8, hdi⟩, hke⟩ := hW9
      have hN24 : gN (zG z) ≤ 24 := hN24
      have hgw : wfG (zG z) := hvp.1.1
      have hP8 : gP (zG z) ≤ 8 := hgw.1
      have hgb : ∀ s, s < gN (zG z) → gF (zG z) s < 8 ∧ gK (zG z) s < 4 ∧ gT (zG z) s < 8 ∧ 1 ≤ gC (zG z) s ∧ gC (zG z) s ≤ 9 := hgw.2.2
      have hn40 := hvp.2.2.2.1
      have hpne : p = nI p.toInt.toNat := (mx_nn (k1.1.1.1)).symm
      have hpnb : p.toInt.toNat < gP (zG z) := tn_lt k1.1.1
      have hpn31 : p.toInt.toNat < 2 ^ 31 := tn31 _
      generalize p.toInt.toNat = pn at hpne hpnb hpn31 ⊢
      subst hpne
      have hqne : q = nI q.toInt.toNat := (mx_nn (k1.1.2.1)).symm
      have hqnb : q.toInt.toNat < gP (zG z) := tn_lt k1.1.2
      have hqn31 : q.toInt.toNat < 2 ^ 31 := tn31 _
      generalize q.toInt.toNat = qn at hqne hqnb hqn31 ⊢
      subst hqne
      have hnne : n = nI n.toInt.toNat := (mx_nn (k1.2.1)).symm
      have hnnb : n.toInt.toNat ≤ 4 := le4 k1.2
      have hnn31 : n.toInt.toNat < 2 ^ 31 := tn31 _
      generalize n.toInt.toNat = nn at hnne hnnb hnn31 ⊢
      subst hnne
      have hpn8 : pn < 8 := by omega
      have hqn8 : qn < 8 := by omega
      refine mx_aload_n (i := 0) (hi := rfl) (hl := rfl) (hd := dX10_paths_52) ?_
      refine mx_aload_n (i := 0) (hi := rfl) (hl := rfl) (hd := dX10_paths_53) ?_
      refine mx_getR (ci := 10) (k := 5) (r := (m + 3)) dX10_paths_54 k_1018 (by decide) rfl (by assumption) (by assumption) (by omega) ?_
      refine mx_callVi (ci := 10) (As := [.ref (m + 3)]) (rest := []) dX10_paths_57 (mt_compileOf G Ir m hs0 (m + 3) (zX z) (Or.inl rfl) t_now l_now hvp) km_X10_compileOf rfl k_1198 k_1200 k_39 (by assumption) rfl rfl (Nat.le_of_ble_eq_true rfl) (by decide) (fun r3 I2 h4 => ?_)
      obtain ⟨e9, q1, q2⟩ := h4
      subst e9
      have hA9 := auP_rdF (zX z).2.2 (zX z).2.1
      have hwfp := wfP_vA hvp.2.2.2
      refine mx_aload_n (i := 0) (hi := rfl) (hl := rfl) (hd := dX10_paths_60) ?_
      refine mx_callVi (ci := 10) (As := []) (rest := []) dX10_paths_61 (mt_layFits G I2 m hs0 (vA (zX z)) q1 hA9) km_X10_layFits rfl k_1214 k_1216 k_43 (by assumption) rfl rfl (Nat.le_of_ble_eq_true rfl) (by decide) (fun r5 I3 h6 => ?_)
      obtain ⟨e9, f1, f2, f3⟩ := h6
      subst e9
      have ha3 : auN I3 m (vA (zX z)) := q1.k (fun j _ _ => f3 _ _ (by omega) (by omega)) (fun b k _ _ => f3 _ _ (by omega) (by omega))
      have hS3 : mS Ir I3 m := q2.S.tr (mS.of (fun b k hb => f3 b k (by omega) (by omega)))
      have hg3 : gaF (I3 (m + 3)) (zG z) := hvp.1.c (by omega) (fun k _ => by rw [hS3.1 (m + 3) (by omega)])
      obtain ⟨la9, em9, -, hem9, -, hla9, hac9⟩ := ha3.2.1
      have hem := ac_em hla9 hac9
      have J81 : ∀ (_ : Unit), (∀ k, k < 4 → I3 (m + 18) k = nI (pEn (vA (zX z)) 0 k)) → (∀ k, k < 4 → I3 (m + 19) k = nI (pEn (vA (zX z)) 1 k)) → (auN I3 m (vA (zX z))) → (mS Ir I3 m) → (gaF (I3 (m + 3)) (zG z)) → mx_V mX10_paths mx_S0 5 0 0 81 [some (.ref m), some (.int (nI pn)), some (.int (nI qn)), some (.int (nI nn)), none, none, none, none, none, none, none] [.int (nI (hitC (vA (zX z)) qn pn 1))] G I3 (fun rv Gz Iz => (fun rv I1 => I1 m 0 = nI (fl_paths z (nI pn) (nI qn) (nI nn)) ∧ mx_fr I I1 m (m + 23) ∧ ((fl_paths z (nI pn) (nI qn) (nI nn)) = 0 → rv = some (.int (nI (an_paths z pn qn nn))) ∧ mW G I1 m (z)) ∧ (¬ (fl_paths z (nI pn) (nI qn) (nI nn)) = 0 → (∃ w9, rv = some (.int w9)) ∧ mW G I1 m z)) rv Iz ∧ Gz = G) (fun _ _ _ => False) := by
        intro _ f1 f2 ha3 hS3 hg3
        refine mx_istoreE (i := 4) (ls' := [some (.ref m), some (.int (nI pn)), some (.int (nI qn)), some (.int (nI nn)), some (.int (nI (hitC (vA (zX z)) qn pn 1))), none, none, none, none, none, none]) (hd := dX10_paths_81) (hn := by decide) (hok := rfl) (hls := rfl) ?_
        have L107 : ∀ (fq : Nat) (e c : Nat) (w s t : Nat → Nat) (I5 : mx_I), tsN (2 * gN (zG z)) nn t e < fq → (e ≤ nn + 1) → (c + tsR (zG z) (vA (zX z)) qn nn w s t e = cF (zG z) (vA (zX z)) qn nn pn 1) → (skN I5 m (2 * gN (zG z)) e w s t) → (∀ b k, b ≠ m + 20 → b ≠ m + 21 → b ≠ m + 22 → I5 b k = I3 b k) → mx_V mX10_paths mx_S0 5 0 0 107 [some (.ref m), some (.int (nI pn)), some (.int (nI qn)), some (.int (nI nn)), some (.int (nI c)), some (.int (dpI e)), none, none, none, none, none] [] G I5 (fun rv Gz Iz => (fun rv I1 => I1 m 0 = nI (fl_paths z (nI pn) (nI qn) (nI nn)) ∧ mx_fr I I1 m (m + 23) ∧ ((fl_paths z (nI pn) (nI qn) (nI nn)) = 0 → rv = some (.int (nI (an_paths z pn qn nn))) ∧ mW G I1 m (z)) ∧ (¬ (fl_paths z (nI pn) (nI qn) (nI nn)) = 0 → (∃ w9, rv = some (.int w9)) ∧ mW G I1 m z)) rv Iz ∧ Gz = G) (fun _ _ _ => False) := by
          intro fq
          induction fq with
          | zero => intro e c w s t I5 hfu; exact absurd hfu (Nat.not_lt_zero _)
          | succ fq ih =>
            intro e c w s t I5 hfu he hx hsk hfr
            have hg5 : gaF (I5 (m + 3)) (zG z) := hg3.c (by omega) (fun k _ => hfr _ _ (by omega) (by omega) (by omega))
            have ha5 : auN I5 m (vA (zX z)) := ha3.k (fun j _ _ => hfr _ _ (by omega) (by omega) (by omega)) (fun b k _ _ => hfr _ _ (by omega) (by omega) (by omega))
            have g1 : ∀ k, k < 4 → I5 (m + 18) k = nI (pEn (vA (zX z)) 0 k) := fun k hk => (hfr _ _ (by omega) (by omega) (by omega)).trans (f1 k hk)
            have g2 : ∀ k, k < 4 → I5 (m + 19) k = nI (pEn (vA (zX z)) 1 k) := fun k hk => (hfr _ _ (by omega) (by omega) (by omega)).trans (f2 k hk)
            refine mx_iload (i := 5) (hl := rfl) (hd := dX10_paths_107) ?_
            refine mx_ifR_lt 351 dX10_paths_109 (by decide) (fun c109 => ?_) (fun c109 => ?_)
            · skip
              refine mx_iload (i := 4) (hl := rfl) (hd := dX10_paths_351) ?_
              exact mx_iret dX10_paths_353 rfl rfl (⟨⟨(hfr m 0 (by omega) (by omega) (by omega)).trans ((hS3.2 0 (by omega)).trans hr0), mt_fr hrf (fun b hb => (funext fun k => hfr b k (by omega) (by omega) (by omega)).trans (hS3.1 b (by omega))), fun _ => ⟨congrArg (fun x => some (Value.int (nI x))) (show c = an_paths z pn qn nn by unfold an_paths; rw [← hx, show e = 0 from (dpI_lt (by omega)).mp c109]; rfl), (hW1.S hS3).k (fun b k q => hfr b k (by omega) (by omega) (by omega))⟩, fun z9 => absurd hm0 z9⟩, rfl⟩)
            · skip
              obtain ⟨d, rfl⟩ : ∃ d, e = d + 1 := ⟨e - 1, by have : ¬ e = 0 := fun q9 => c109 ((dpI_lt (by omega)).mpr q9); omega⟩
              rw [dpI_s d]
              have hsk9 := hsk d (Nat.lt_succ_self d)
              obtain ⟨-, -, -, hw8, hs21, ht50⟩ := id hsk9
              refine mx_aload_n (i := 0) (hi := rfl) (hl := rfl) (hd := dX10_paths_112) ?_
              refine mx_getR (ci := 10) (k := 31) (r := (m + 22)) dX10_paths_113 k_1044 (by decide) rfl (by assumption) (by assumption) (by omega) ?_
              refine mx_iload (i := 5) (hl := rfl) (hd := dX10_paths_116) ?_
              refine mx_ialdV d (nI (t d)) dX10_paths_118 (by assumption) ⟨rfl, by rw [l_tried]; omega, by rw [l_tried]; decide⟩ hsk9.2.2.1 ?_
              refine mx_istoreE (i := 6) (ls' := [some (.ref m), some (.int (nI pn)), some (.int (nI qn)), some (.int (nI nn)), some (.int (nI c)), some (.int (nI d)), some (.int (nI (t d))), none, none, none, none]) (hd := dX10_paths_119) (hn := by decide) (hok := rfl) (hls := rfl) ?_
              refine mx_aload_n (i := 0) (hi := rfl) (hl := rfl) (hd := dX10_paths_121) ?_
              refine mx_getR (ci := 10) (k := 31) (r := (m + 22)) dX10_paths_122 k_1044 (by decide) rfl (by assumption) (by assumption) (by omega) ?_
              refine mx_iload (i := 5) (hl := rfl) (hd := dX10_paths_125) ?_
              refine mx_dup2 (hva := rfl) (hvb := rfl) (hd := dX10_paths_127) ?_
              refine mx_ialdV d (nI (t d)) dX10_paths_128 (by assumption) ⟨rfl, by rw [l_tried]; omega, by rw [l_tried]; decide⟩ hsk9.2.2.1 ?_
              refine mx_iconstN 1 dX10_paths_129 (by decide) ?_
              refine mx_iaddN dX10_paths_130 ?_
              refine mx_iast d dX10_paths_131 (by assumption) ⟨rfl, by rw [l_tried]; omega, by rw [l_tried]; decide⟩ ?_
              refine mx_iload (i := 6) (hl := rfl) (hd := dX10_paths_132) ?_
              refine mx_iconstN 2 dX10_paths_134 (by decide) ?_
              refine mx_aload_n (i := 0) (hi := rfl) (hl := rfl) (hd := dX10_paths_135) ?_
              refine mx_getR (ci := 10) (k := 5) (r := (m + 3)) dX10_paths_136 k_1018 (by decide) rfl (by assumption) (by assumption) (by omega) ?_
              refine mx_iconstN 1 dX10_paths_139 (by decide) ?_
              refine mx_ialdV 1 (nI (gN (zG z))) dX10_paths_140 (by assumption) ⟨rfl, by omega, by omega⟩ (by rw [mx_u_at, if_neg (by omega)]; exact hg5.2.2.1) ?_
              refine mx_imulN dX10_paths_141 ?_
              refine mx_cmpN_eq 151 dX10_paths_142 (by decide) (by omega) (by omega) (fun c142 => ?_) (fun c142 => ?_)
              · skip
                have hpo : 2 * gN (zG z) ≤ t d ∨ nn - d = 0 := Or.inl (by omega)
                refine mx_iinc (i := 5) (v := dpI d) (hl := rfl) (hd := dX10_paths_151) (hv := dpI_p d) (hn := by decide) (hok := rfl) ?_
                refine mx_goto (tgt := 348) dX10_paths_154 (by decide) ?_
                refine mx_goto (tgt := 107) dX10_paths_348 (by decide) ?_
                refine mx_leS (ls' := [some (.ref m), some (.int (nI pn)), some (.int (nI qn)), some (.int (nI nn)), some (.int (nI c)), some (.int (dpI d)), none, none, none, none, none]) ⟨rfl, rfl, rfl, rfl, rfl, rfl, trivial⟩ ?_
                exact ih d c w s (upF t d (t d + 1)) _ (Nat.lt_of_lt_of_le (ts_pop (v := zG z) (A := vA (zX z)) (q := qn) (w := w) (s := s) (fun l hl => upF_n hl) hpo).2 (Nat.le_of_lt_succ hfu)) (by omega) (by rw [(ts_pop (fun l hl => upF_n hl) hpo).1]; exact hx) (sk_pop hsk) (fun b k q1 q2 q3 => by rw [mx_u_at, if_neg (by omega)]; exact hfr b k q1 q2 q3)
              · skip
                refine mx_iload (i := 5) (hl := rfl) (hd := dX10_paths_145) ?_
                refine mx_iload_n (i := 3) (hi := rfl) (hl := rfl) (hd := dX10_paths_147) ?_
                refine mx_cmpN_ne 157 dX10_paths_148 (by decide) (by omega) (by omega) (fun c148 => ?_) (fun c148 => ?_)
                · skip
                  have hoN : t d < 2 * gN (zG z) := by omega
                  obtain ⟨g, hg⟩ : ∃ g, nn - d = g + 1 := ⟨nn - d - 1, by omega⟩
                  obtain ⟨sn, hsn⟩ : ∃ sn, t d / 2 = sn := ⟨_, rfl⟩
                  have hsN : sn < gN (zG z) := by omega
                  have hbs := hgb sn hsN
                  refine mx_iload (i := 6) (hl := rfl) (hd := dX10_paths_157) ?_
                  refine mx_iconstN 2 dX10_paths_159 (by decide) ?_
                  refine mx_idivN dX10_paths_160 (by omega) (by decide) ?_
                  refine mx_top (y := nI sn) (congrArg nI hsn) ?_
                  refine mx_istoreE (i := 7) (ls' := [some (.ref m), some (.int (nI pn)), some (.int (nI qn)), some (.int (nI nn)), some (.int (nI c)), some (.int (nI d)), some (.int (nI (t d))), some (.int (nI sn)), none, none, none]) (hd := dX10_paths_161) (hn := by decide) (hok := rfl) (hls := rfl) ?_
                  refine mx_aload_n (i := 0) (hi := rfl) (hl := rfl) (hd := dX10_paths_163) ?_
                  refine mx_getR (ci := 10) (k := 5) (r := (m + 3)) dX10_paths_164 k_1018 (by decide) rfl (by assumption) (by assumption) (by omega) ?_
                  refine mx_iload (i := 7) (hl := rfl) (hd := dX10_paths_167) ?_
                  refine mx_callSp (As := [.int (nI sn)]) (rest := [.ref (m + 3)]) dX10_paths_169 (mt_at G (mx_u I5 (m + 22) d (nI (t d + 1))) sn) km_X10_at rfl k_1180 k_1181 rfl rfl (Nat.le_of_ble_eq_true rfl) (by decide) ?_
                  refine mx_iconstN 1 dX10_paths_172 (by decide) ?_
                  refine mx_iaddN dX10_paths_173 ?_
                  refine mx_ialdV ((3 + 4 * sn) + 1) (nI (gK (zG z) sn)) dX10_paths_174 (by assumption) ⟨rfl, by omega, by omega⟩ (by rw [mx_u_at, if_neg (by omega)]; exact (hg5.2.2.2 sn (by omega)).2.1) ?_
                  refine mx_istoreE (i := 8) (ls' := [some (.ref m), some (.int (nI pn)), some (.int (nI qn)), some (.int (nI nn)), some (.int (nI c)), some (.int (nI d)), some (.int (nI (t d))), some (.int (nI sn)), some (.int (nI (gK (zG z) sn))), none, none]) (hd := dX10_paths_175) (hn := by decide) (hok := rfl) (hls := rfl) ?_
                  refine mx_aload_n (i := 0) (hi := rfl) (hl := rfl) (hd := dX10_paths_177) ?_
                  refine mx_getR (ci := 10) (k := 5) (r := (m + 3)) dX10_paths_178 k_1018 (by decide) rfl (by assumption) (by assumption) (by omega) ?_
                  refine mx_iload (i := 7) (hl := rfl) (hd := dX10_paths_181) ?_
                  refine mx_callSp (As := [.int (nI sn)]) (rest := [.ref (m + 3)]) dX10_paths_183 (mt_at G (mx_u I5 (m + 22) d (nI (t d + 1))) sn) km_X10_at rfl k_1180 k_1181 rfl rfl (Nat.le_of_ble_eq_true rfl) (by decide) ?_
                  refine mx_iload (i := 6) (hl := rfl) (hd := dX10_paths_186) ?_
                  refine mx_iconstN 2 dX10_paths_188 (by decide) ?_
                  refine mx_iremN dX10_paths_189 (by omega) (by decide) ?_
                  refine mx_ifN_ne 197 dX10_paths_190 (by decide) (by omega) (fun c190 => ?_) (fun c190 => ?_)
                  · skip
                    
                    refine mx_iconstN 2 dX10_paths_197 (by decide) ?_
                    refine mx_iaddN dX10_paths_198 ?_
                    refine mx_ialdV (3 + 4 * sn + 2) (nI (gT (zG z) sn)) dX10_paths_199 (by assumption) ⟨rfl, by rw [l_now]; omega, by rw [l_now]; decide⟩ (by rw [mx_u_at, if_neg (by omega)]; exact (hg5.2.2.2 sn (by omega)).2.2.1) ?_
                    refine mx_aload_n (i := 0) (hi := rfl) (hl := rfl) (hd := dX10_paths_200) ?_
                    refine mx_getR (ci := 10) (k := 29) (r := (m + 20)) dX10_paths_201 k_1042 (by decide) rfl (by assumption) (by assumption) (by omega) ?_
                    refine mx_iload (i := 5) (hl := rfl) (hd := dX10_paths_204) ?_
                    refine mx_ialdV d (nI (w d)) dX10_paths_206 (by assumption) ⟨rfl, by rw [l_who]; omega, by rw [l_who]; decide⟩ (by rw [mx_u_at, if_neg (by omega)]; exact hsk9.1) ?_
                    refine mx_cmpN_ne 214 dX10_paths_207 (by decide) (by omega) (by omega) (fun c207 => ?_) (fun c207 => ?_)
                    · skip
                      have hno := cfO_1n (v := zG z) (A := vA (zX z)) (q := qn) (g := g) (ps := s d) c190 hsn (fun q9 => c207 q9.1)
                      refine mx_iconstN 0 dX10_paths_214 (by decide) ?_
                      refine mx_istoreE (i := 9) (ls' := [some (.ref m), some (.int (nI pn)), some (.int (nI qn)), some (.int (nI nn)), some (.int (nI c)), some (.int (nI d)), some (.int (nI (t d))), some (.int (nI sn)), some (.int (nI (gK (zG z) sn))), some (.int (nI 0)), none]) (hd := dX10_paths_215) (hn := by decide) (hok := rfl) (hls := rfl) ?_
                      refine mx_iload (i := 9) (hl := rfl) (hd := dX10_paths_217) ?_
                      refine mx_if0_eq 260 dX10_paths_219 (by decide) ?_
                      refine mx_iconstN 0 dX10_paths_260 (by decide) ?_
                      refine mx_istoreE (i := 10) (ls' := [some (.ref m), some (.int (nI pn)), some (.int (nI qn)), some (.int (nI nn)), some (.int (nI c)), some (.int (nI d)), some (.int (nI (t d))), some (.int (nI sn)), some (.int (nI (gK (zG z) sn))), some (.int (nI 0)), some (.int (nI 0))]) (hd := dX10_paths_261) (hn := by decide) (hok := rfl) (hls := rfl) ?_
                      refine mx_iload (i := 10) (hl := rfl) (hd := dX10_paths_263) ?_
                      refine mx_if0_eq 348 dX10_paths_265 (by decide) ?_
                      rw [← dpI_s d]
                      refine mx_goto (tgt := 107) dX10_paths_348 (by decide) ?_
                      refine mx_leS (ls' := [some (.ref m), some (.int (nI pn)), some (.int (nI qn)), some (.int (nI nn)), some (.int (nI c)), some (.int (dpI (d + 1))), none, none, none, none, none]) ⟨rfl, rfl, rfl, rfl, rfl, rfl, trivial⟩ ?_
                      exact ih (d + 1) c w s (upF t d (t d + 1)) _ (Nat.lt_of_lt_of_le (ts_no (v := zG z) (A := vA (zX z)) (q := qn) (w := w) (s := s) hg (fun l hl => upF_n hl) (upF_s _ _ _) hoN hno).2 (Nat.le_of_lt_succ hfu)) he (by rw [(ts_no hg (fun l hl => upF_n hl) (upF_s _ _ _) hoN hno).1]; exact hx) (sk_no hsk (by omega)) (fun b k q1 q2 q3 => by rw [mx_u_at, if_neg (by omega)]; exact hfr b k q1 q2 q3)
                    · skip
                      refine mx_iconstN 1 dX10_paths_210 (by decide) ?_
                      refine mx_goto (tgt := 215) dX10_paths_211 (by decide) ?_
                      refine mx_istoreE (i := 9) (ls' := [some (.ref m), some (.int (nI pn)), some (.int (nI qn)), some (.int (nI nn)), some (.int (nI c)), some (.int (nI d)), some (.int (nI (t d))), some (.int (nI sn)), some (.int (nI (gK (zG z) sn))), some (.int (nI 1)), none]) (hd := dX10_paths_215) (hn := by decide) (hok := rfl) (hls := rfl) ?_
                      refine mx_iload (i := 9) (hl := rfl) (hd := dX10_paths_217) ?_
                      refine mx_if1_eq 260 dX10_paths_219 (by decide) ?_
                      refine mx_aload_n (i := 0) (hi := rfl) (hl := rfl) (hd := dX10_paths_222) ?_
                      refine mx_aload_n (i := 0) (hi := rfl) (hl := rfl) (hd := dX10_paths_223) ?_
                      refine mx_getR (ci := 10) (k := 30) (r := (m + 21)) dX10_paths_224 k_1043 (by decide) rfl (by assumption) (by assumption) (by omega) ?_
                      refine mx_iload (i := 5) (hl := rfl) (hd := dX10_paths_227) ?_
                      refine mx_ialdV d (nI (s d)) dX10_paths_229 (by assumption) ⟨rfl, by rw [l_sets]; omega, by rw [l_sets]; decide⟩ (by rw [mx_u_at, if_neg (by omega)]; exact hsk9.2.1) ?_
                      refine mx_iload (i := 6) (hl := rfl) (hd := dX10_paths_230) ?_
                      refine mx_iconstN 2 dX10_paths_232 (by decide) ?_
                      refine mx_iremN dX10_paths_233 (by omega) (by decide) ?_
                      refine mx_ifN_ne 247 dX10_paths_234 (by decide) (by omega) (fun c234 => ?_) (fun c234 => ?_)
                      · skip
                        
                        refine mx_aload_n (i := 0) (hi := rfl) (hl := rfl) (hd := dX10_paths_247) ?_
                        refine mx_getR (ci := 10) (k := 26) (r := (m + 19)) dX10_paths_248 k_1039 (by decide) rfl (by assumption) (by assumption) (by omega) ?_
                        refine mx_iload (i := 8) (hl := rfl) (hd := dX10_paths_251) ?_
                        refine mx_ialdV (gK (zG z) sn) (nI (pEn (vA (zX z)) 1 (gK (zG z) sn))) dX10_paths_253 (by assumption) ⟨rfl, by rw [l_back]; exact hbs.2.1, by rw [l_back]; decide⟩ (by rw [mx_u_at, if_neg (by omega)]; exact (g2 _ hbs.2.1)) ?_
                        refine mx_callVp (ci := 10) (As := [.int (nI (s d)), .int (nI (pEn (vA (zX z)) 1 (gK (zG z) sn)))]) (rest := []) dX10_paths_254 (mt_behind G (mx_u I5 (m + 22) d (nI (t d + 1))) m hs0 (vA (zX z)) (ha5.k (fun j _ _ => by rw [mx_u_at, if_neg (by omega)]) (fun b k _ _ => by rw [mx_u_at, if_neg (by omega)])) hA9 (s d) (pEn (vA (zX z)) 1 (gK (zG z) sn)) (Nat.lt_trans hsk9.2.2.2.2.1 (by decide))) km_X10_behind rfl k_1334 k_1336 k_52 (by assumption) rfl rfl (Nat.le_of_ble_eq_true rfl) (by decide) ?_
                        refine mx_goto (tgt := 261) dX10_paths_257 (by decide) ?_
                        refine mx_istoreE (i := 10) (ls' := [some (.ref m), some (.int (nI pn)), some (.int (nI qn)), some (.int (nI nn)), some (.int (nI c)), some (.int (nI d)), some (.int (nI (t d))), some (.int (nI sn)), some (.int (nI (gK (zG z) sn))), some (.int (nI 1)), some (.int (nI (pFol (vA (zX z)) (s d) &&& pEn (vA (zX z)) 1 (gK (zG z) sn))))]) (hd := dX10_paths_261) (hn := by decide) (hok := rfl) (hls := rfl) ?_
                        refine mx_iload (i := 10) (hl := rfl) (hd := dX10_paths_263) ?_
                        refine mx_ifN_eq 348 dX10_paths_265 (by decide) (Nat.lt_trans (mx_and_lt (pFol_lt hwfp _)) (by decide)) (fun c265 => ?_) (fun c265 => ?_)
                        · skip
                          have hno := cfO_1n (v := zG z) (A := vA (zX z)) (q := qn) (g := g) (here := w d) (ps := s d) c190 hsn (fun q9 => q9.2 c265)
                          rw [← dpI_s d]
                          refine mx_goto (tgt := 107) dX10_paths_348 (by decide) ?_
                          refine mx_leS (ls' := [some (.ref m), some (.int (nI pn)), some (.int (nI qn)), some (.int (nI nn)), some (.int (nI c)), some (.int (dpI (d + 1))), none, none, none, none, none]) ⟨rfl, rfl, rfl, rfl, rfl, rfl, trivial⟩ ?_
                          exact ih (d + 1) c w s (upF t d (t d + 1)) _ (Nat.lt_of_lt_of_le (ts_no (v := zG z) (A := vA (zX z)) (q := qn) (w := w) (s := s) hg (fun l hl => upF_n hl) (upF_s _ _ _) hoN hno).2 (Nat.le_of_lt_succ hfu)) he (by rw [(ts_no hg (fun l hl => upF_n hl) (upF_s _ _ _) hoN hno).1]; exact hx) (sk_no hsk (by omega)) (fun b k q1 q2 q3 => by rw [mx_u_at, if_neg (by omega)]; exact hfr b k q1 q2 q3)
                        · skip
                          have hyes := cfO_1y (v := zG z) (A := vA (zX z)) (q := qn) (g := g) c190 hsn ⟨c207, c265⟩
                          refine mx_iincE (i := 5) (ls' := [some (.ref m), some (.int (nI pn)), some (.int (nI qn)), some (.int (nI nn)), some (.int (nI c)), some (.int (nI (d + 1))), some (.int (nI (t d))), some (.int (nI sn)), some (.int (nI (gK (zG z) sn))), some (.int (nI 1)), some (.int (nI (pFol (vA (zX z)) (s d) &&& pEn (vA (zX z)) 1 (gK (zG z) sn))))]) 1 dX10_paths_268 rfl (by decide) (by decide) rfl rfl ?_
                          refine mx_aload_n (i := 0) (hi := rfl) (hl := rfl) (hd := dX10_paths_271) ?_
                          refine mx_getR (ci := 10) (k := 29) (r := (m + 20)) dX10_paths_272 k_1042 (by decide) rfl (by assumption) (by assumption) (by omega) ?_
                          refine mx_iload (i := 5) (hl := rfl) (hd := dX10_paths_275) ?_
                          refine mx_aload_n (i := 0) (hi := rfl) (hl := rfl) (hd := dX10_paths_277) ?_
                          refine mx_getR (ci := 10) (k := 5) (r := (m + 3)) dX10_paths_278 k_1018 (by decide) rfl (by assumption) (by assumption) (by omega) ?_
                          refine mx_iload (i := 7) (hl := rfl) (hd := dX10_paths_281) ?_
                          refine mx_callSp (As := [.int (nI sn)]) (rest := [.ref (m + 3), .int (nI (d + 1)), .ref (m + 20)]) dX10_paths_283 (mt_at G (mx_u I5 (m + 22) d (nI (t d + 1))) sn) km_X10_at rfl k_1180 k_1181 rfl rfl (Nat.le_of_ble_eq_true rfl) (by decide) ?_
                          refine mx_iload (i := 6) (hl := rfl) (hd := dX10_paths_286) ?_
                          refine mx_iconstN 2 dX10_paths_288 (by decide) ?_
                          refine mx_iremN dX10_paths_289 (by omega) (by decide) ?_
                          refine mx_ifN_ne 297 dX10_paths_290 (by decide) (by omega) (fun c290 => ?_) (fun c290 => ?_)
                          · skip
                            
                            refine mx_iconstN 0 dX10_paths_297 (by decide) ?_
                            refine mx_iaddN dX10_paths_298 ?_
                            refine mx_ialdV (3 + 4 * sn) (nI (gF (zG z) sn)) dX10_paths_299 (by assumption) ⟨rfl, by rw [l_now]; omega, by rw [l_now]; decide⟩ (by rw [mx_u_at, if_neg (by omega)]; exact (hg5.2.2.2 sn (by omega)).1) ?_
                            refine mx_iast (d + 1) dX10_paths_300 (by assumption) ⟨rfl, by rw [l_who]; omega, by rw [l_who]; decide⟩ ?_
                            refine mx_aload_n (i := 0) (hi := rfl) (hl := rfl) (hd := dX10_paths_301) ?_
                            refine mx_getR (ci := 10) (k := 30) (r := (m + 21)) dX10_paths_302 k_1043 (by decide) rfl (by assumption) (by assumption) (by omega) ?_
                            refine mx_iload (i := 5) (hl := rfl) (hd := dX10_paths_305) ?_
                            refine mx_iload (i := 10) (hl := rfl) (hd := dX10_paths_307) ?_
                            refine mx_iast (d + 1) dX10_paths_309 (by assumption) ⟨rfl, by rw [l_sets]; omega, by rw [l_sets]; decide⟩ ?_
                            refine mx_aload_n (i := 0) (hi := rfl) (hl := rfl) (hd := dX10_paths_310) ?_
                            refine mx_getR (ci := 10) (k := 31) (r := (m + 22)) dX10_paths_311 k_1044 (by decide) rfl (by assumption) (by assumption) (by omega) ?_
                            refine mx_iload (i := 5) (hl := rfl) (hd := dX10_paths_314) ?_
                            refine mx_iconstN 0 dX10_paths_316 (by decide) ?_
                            refine mx_iast (d + 1) dX10_paths_317 (by assumption) ⟨rfl, by rw [l_tried]; omega, by rw [l_tried]; decide⟩ ?_
                            refine mx_iload (i := 4) (hl := rfl) (hd := dX10_paths_318) ?_
                            refine mx_aload_n (i := 0) (hi := rfl) (hl := rfl) (hd := dX10_paths_320) ?_
                            refine mx_getR (ci := 10) (k := 29) (r := (m + 20)) dX10_paths_321 k_1042 (by decide) rfl (by assumption) (by assumption) (by omega) ?_
                            refine mx_iload (i := 5) (hl := rfl) (hd := dX10_paths_324) ?_
                            refine mx_ialdV (d + 1) (nI (gF (zG z) sn)) dX10_paths_326 (by assumption) ⟨rfl, by rw [l_who]; omega, by rw [l_who]; decide⟩ (by rw [mx_u_at, if_neg (by omega), mx_u_at, if_neg (by omega), mx_u_at, if_pos ⟨rfl, rfl⟩]) ?_
                            refine mx_iload_n (i := 2) (hi := rfl) (hl := rfl) (hd := dX10_paths_327) ?_
                            refine mx_cmpN_ne 344 dX10_paths_328 (by decide) (by omega) (by omega) (fun c328 => ?_) (fun c328 => ?_)
                            · skip
                              refine mx_iconstN 0 dX10_paths_344 (by decide) ?_
                              refine mx_top (y := nI (hitC (vA (zX z)) qn (gF (zG z) sn) (pFol (vA (zX z)) (s d) &&& pEn (vA (zX z)) 1 (gK (zG z) sn)))) (congrArg nI (show 0 = hitC (vA (zX z)) qn (gF (zG z) sn) (pFol (vA (zX z)) (s d) &&& pEn (vA (zX z)) 1 (gK (zG z) sn)) from Eq.symm (if_neg (by first | exact fun q9 => c328 q9.1 | exact fun q9 => c337 q9.2)))) ?_
                              refine mx_iaddN dX10_paths_345 ?_
                              refine mx_istoreE (i := 4) (ls' := [some (.ref m), some (.int (nI pn)), some (.int (nI qn)), some (.int (nI nn)), some (.int (nI (c + (hitC (vA (zX z)) qn (gF (zG z) sn) (pFol (vA (zX z)) (s d) &&& pEn (vA (zX z)) 1 (gK (zG z) sn)))))), some (.int (nI (d + 1))), some (.int (nI (t d))), some (.int (nI sn)), some (.int (nI (gK (zG z) sn))), some (.int (nI 1)), some (.int (nI (pFol (vA (zX z)) (s d) &&& pEn (vA (zX z)) 1 (gK (zG z) sn))))]) (hd := dX10_paths_346) (hn := by decide) (hok := rfl) (hls := rfl) ?_
                              rw [← dpI_s (d + 1)]
                              refine mx_goto (tgt := 107) dX10_paths_348 (by decide) ?_
                              refine mx_leS (ls' := [some (.ref m), some (.int (nI pn)), some (.int (nI qn)), some (.int (nI nn)), some (.int (nI (c + (hitC (vA (zX z)) qn (gF (zG z) sn) (pFol (vA (zX z)) (s d) &&& pEn (vA (zX z)) 1 (gK (zG z) sn)))))), some (.int (dpI (d + 1 + 1))), none, none, none, none, none]) ⟨rfl, rfl, rfl, rfl, rfl, rfl, trivial⟩ ?_
                              exact ih (d + 2) (c + hitC (vA (zX z)) qn (gF (zG z) sn) (pFol (vA (zX z)) (s d) &&& pEn (vA (zX z)) 1 (gK (zG z) sn))) (upF w (d + 1) (gF (zG z) sn)) (upF s (d + 1) (pFol (vA (zX z)) (s d) &&& pEn (vA (zX z)) 1 (gK (zG z) sn))) (upF (upF t d (t d + 1)) (d + 1) 0) _ (Nat.lt_of_lt_of_le (ts_yes (v := zG z) (A := vA (zX z)) (q := qn) (n := nn) (d := d) (g := g) (h2 := (gF (zG z) sn)) (p2 := (pFol (vA (zX z)) (s d) &&& pEn (vA (zX z)) 1 (gK (zG z) sn))) (w := w) (s := s) (t := t) (w' := upF w (d + 1) (gF (zG z) sn)) (s' := upF s (d + 1) (pFol (vA (zX z)) (s d) &&& pEn (vA (zX z)) 1 (gK (zG z) sn))) (t' := upF (upF t d (t d + 1)) (d + 1) 0) hg (fun l hl => ⟨upF_n hl, upF_n hl⟩) (fun l h1 h2 => (upF_n h2).trans (upF_n h1)) ((upF_n (by omega)).trans (upF_s _ _ _)) (upF_s _ _ _) (upF_s _ _ _) (upF_s _ _ _) hoN hyes).2 (Nat.le_of_lt_succ hfu)) (by omega) (by rw [Nat.add_assoc, (ts_yes (v := zG z) (A := vA (zX z)) (q := qn) (n := nn) (d := d) (g := g) (h2 := (gF (zG z) sn)) (p2 := (pFol (vA (zX z)) (s d) &&& pEn (vA (zX z)) 1 (gK (zG z) sn))) (w := w) (s := s) (t := t) (w' := upF w (d + 1) (gF (zG z) sn)) (s' := upF s (d + 1) (pFol (vA (zX z)) (s d) &&& pEn (vA (zX z)) 1 (gK (zG z) sn))) (t' := upF (upF t d (t d + 1)) (d + 1) 0) hg (fun l hl => ⟨upF_n hl, upF_n hl⟩) (fun l h1 h2 => (upF_n h2).trans (upF_n h1)) ((upF_n (by omega)).trans (upF_s _ _ _)) (upF_s _ _ _) (upF_s _ _ _) (upF_s _ _ _) hoN hyes).1]; exact hx) (sk_yes hsk (by omega) hbs.1 (mx_and_lt (pFol_lt hwfp _))) (fun b k q1 q2 q3 => by rw [mx_u_at, if_neg (by omega), mx_u_at, if_neg (by omega), mx_u_at, if_neg (by omega), mx_u_at, if_neg (by omega)]; exact hfr b k q1 q2 q3)
                            · skip
                              refine mx_aload_n (i := 0) (hi := rfl) (hl := rfl) (hd := dX10_paths_331) ?_
                              refine mx_iload (i := 10) (hl := rfl) (hd := dX10_paths_332) ?_
                              refine mx_callVp (ci := 10) (As := [.int (nI (pFol (vA (zX z)) (s d) &&& pEn (vA (zX z)) 1 (gK (zG z) sn)))]) (rest := [.int (nI c)]) dX10_paths_334 (mt_isEnd G (mx_u (mx_u (mx_u (mx_u I5 (m + 22) d (nI (t d + 1))) (m + 20) (d + 1) (nI (gF (zG z) sn))) (m + 21) (d + 1) (nI (pFol (vA (zX z)) (s d) &&& pEn (vA (zX z)) 1 (gK (zG z) sn)))) (m + 22) (d + 1) (nI 0)) m hs0 (vA (zX z)) (ha5.k (fun j _ _ => by rw [mx_u_at, if_neg (by omega), mx_u_at, if_neg (by omega), mx_u_at, if_neg (by omega), mx_u_at, if_neg (by omega)]) (fun b k _ _ => by rw [mx_u_at, if_neg (by omega), mx_u_at, if_neg (by omega), mx_u_at, if_neg (by omega), mx_u_at, if_neg (by omega)])) hA9 (pFol (vA (zX z)) (s d) &&& pEn (vA (zX z)) 1 (gK (zG z) sn)) (Nat.lt_trans (mx_and_lt (pFol_lt hwfp _)) (by decide))) km_X10_isEnd rfl k_1223 k_1225 k_45 (by assumption) rfl rfl (Nat.le_of_ble_eq_true rfl) (by decide) ?_
                              refine mx_ifB_eq 344 dX10_paths_337 (by decide) (fun c337 => ?_) (fun c337 => ?_)
                              · skip
                                refine mx_iconstN 0 dX10_paths_344 (by decide) ?_
                                refine mx_top (y := nI (hitC (vA (zX z)) qn (gF (zG z) sn) (pFol (vA (zX z)) (s d) &&& pEn (vA (zX z)) 1 (gK (zG z) sn)))) (congrArg nI (show 0 = hitC (vA (zX z)) qn (gF (zG z) sn) (pFol (vA (zX z)) (s d) &&& pEn (vA (zX z)) 1 (gK (zG z) sn)) from Eq.symm (if_neg (by first | exact fun q9 => c328 q9.1 | exact fun q9 => c337 q9.2)))) ?_
                                refine mx_iaddN dX10_paths_345 ?_
                                refine mx_istoreE (i := 4) (ls' := [some (.ref m), some (.int (nI pn)), some (.int (nI qn)), some (.int (nI nn)), some (.int (nI (c + (hitC (vA (zX z)) qn (gF (zG z) sn) (pFol (vA (zX z)) (s d) &&& pEn (vA (zX z)) 1 (gK (zG z) sn)))))), some (.int (nI (d + 1))), some (.int (nI (t d))), some (.int (nI sn)), some (.int (nI (gK (zG z) sn))), some (.int (nI 1)), some (.int (nI (pFol (vA (zX z)) (s d) &&& pEn (vA (zX z)) 1 (gK (zG z) sn))))]) (hd := dX10_paths_346) (hn := by decide) (hok := rfl) (hls := rfl) ?_
                                rw [← dpI_s (d + 1)]
                                refine mx_goto (tgt := 107) dX10_paths_348 (by decide) ?_
                                refine mx_leS (ls' := [some (.ref m), some (.int (nI pn)), some (.int (nI qn)), some (.int (nI nn)), some (.int (nI (c + (hitC (vA (zX z)) qn (gF (zG z) sn) (pFol (vA (zX z)) (s d) &&& pEn (vA (zX z)) 1 (gK (zG z) sn)))))), some (.int (dpI (d + 1 + 1))), none, none, none, none, none]) ⟨rfl, rfl, rfl, rfl, rfl, rfl, trivial⟩ ?_
                                exact ih (d + 2) (c + hitC (vA (zX z)) qn (gF (zG z) sn) (pFol (vA (zX z)) (s d) &&& pEn (vA (zX z)) 1 (gK (zG z) sn))) (upF w (d + 1) (gF (zG z) sn)) (upF s (d + 1) (pFol (vA (zX z)) (s d) &&& pEn (vA (zX z)) 1 (gK (zG z) sn))) (upF (upF t d (t d + 1)) (d + 1) 0) _ (Nat.lt_of_lt_of_le (ts_yes (v := zG z) (A := vA (zX z)) (q := qn) (n := nn) (d := d) (g := g) (h2 := (gF (zG z) sn)) (p2 := (pFol (vA (zX z)) (s d) &&& pEn (vA (zX z)) 1 (gK (zG z) sn))) (w := w) (s := s) (t := t) (w' := upF w (d + 1) (gF (zG z) sn)) (s' := upF s (d + 1) (pFol (vA (zX z)) (s d) &&& pEn (vA (zX z)) 1 (gK (zG z) sn))) (t' := upF (upF t d (t d + 1)) (d + 1) 0) hg (fun l hl => ⟨upF_n hl, upF_n hl⟩) (fun l h1 h2 => (upF_n h2).trans (upF_n h1)) ((upF_n (by omega)).trans (upF_s _ _ _)) (upF_s _ _ _) (upF_s _ _ _) (upF_s _ _ _) hoN hyes).2 (Nat.le_of_lt_succ hfu)) (by omega) (by rw [Nat.add_assoc, (ts_yes (v := zG z) (A := vA (zX z)) (q := qn) (n := nn) (d := d) (g := g) (h2 := (gF (zG z) sn)) (p2 := (pFol (vA (zX z)) (s d) &&& pEn (vA (zX z)) 1 (gK (zG z) sn))) (w := w) (s := s) (t := t) (w' := upF w (d + 1) (gF (zG z) sn)) (s' := upF s (d + 1) (pFol (vA (zX z)) (s d) &&& pEn (vA (zX z)) 1 (gK (zG z) sn))) (t' := upF (upF t d (t d + 1)) (d + 1) 0) hg (fun l hl => ⟨upF_n hl, upF_n hl⟩) (fun l h1 h2 => (upF_n h2).trans (upF_n h1)) ((upF_n (by omega)).trans (upF_s _ _ _)) (upF_s _ _ _) (upF_s _ _ _) (upF_s _ _ _) hoN hyes).1]; exact hx) (sk_yes hsk (by omega) hbs.1 (mx_and_lt (pFol_lt hwfp _))) (fun b k q1 q2 q3 => by rw [mx_u_at, if_neg (by omega), mx_u_at, if_neg (by omega), mx_u_at, if_neg (by omega), mx_u_at, if_neg (by omega)]; exact hfr b k q1 q2 q3)
                              · skip
                                refine mx_iconstN 1 dX10_paths_340 (by decide) ?_
                                refine mx_goto (tgt := 345) dX10_paths_341 (by decide) ?_
                                refine mx_top (y := nI (hitC (vA (zX z)) qn (gF (zG z) sn) (pFol (vA (zX z)) (s d) &&& pEn (vA (zX z)) 1 (gK (zG z) sn)))) (congrArg nI (show 1 = hitC (vA (zX z)) qn (gF (zG z) sn) (pFol (vA (zX z)) (s d) &&& pEn (vA (zX z)) 1 (gK (zG z) sn)) from Eq.symm (if_pos ⟨c328, c337⟩))) ?_
                                refine mx_iaddN dX10_paths_345 ?_
                                refine mx_istoreE (i := 4) (ls' := [some (.ref m), some (.int (nI pn)), some (.int (nI qn)), some (.int (nI nn)), some (.int (nI (c + (hitC (vA (zX z)) qn (gF (zG z) sn) (pFol (vA (zX z)) (s d) &&& pEn (vA (zX z)) 1 (gK (zG z) sn)))))), some (.int (nI (d + 1))), some (.int (nI (t d))), some (.int (nI sn)), some (.int (nI (gK (zG z) sn))), some (.int (nI 1)), some (.int (nI (pFol (vA (zX z)) (s d) &&& pEn (vA (zX z)) 1 (gK (zG z) sn))))]) (hd := dX10_paths_346) (hn := by decide) (hok := rfl) (hls := rfl) ?_
                                rw [← dpI_s (d + 1)]
                                refine mx_goto (tgt := 107) dX10_paths_348 (by decide) ?_
                                refine mx_leS (ls' := [some (.ref m), some (.int (nI pn)), some (.int (nI qn)), some (.int (nI nn)), some (.int (nI (c + (hitC (vA (zX z)) qn (gF (zG z) sn) (pFol (vA (zX z)) (s d) &&& pEn (vA (zX z)) 1 (gK (zG z) sn)))))), some (.int (dpI (d + 1 + 1))), none, none, none, none, none]) ⟨rfl, rfl, rfl, rfl, rfl, rfl, trivial⟩ ?_
                                exact ih (d + 2) (c + hitC (vA (zX z)) qn (gF (zG z) sn) (pFol (vA (zX z)) (s d) &&& pEn (vA (zX z)) 1 (gK (zG z) sn))) (upF w (d + 1) (gF (zG z) sn)) (upF s (d + 1) (pFol (vA (zX z)) (s d) &&& pEn (vA (zX z)) 1 (gK (zG z) sn))) (upF (upF t d (t d + 1)) (d + 1) 0) _ (Nat.lt_of_lt_of_le (ts_yes (v := zG z) (A := vA (zX z)) (q := qn) (n := nn) (d := d) (g := g) (h2 := (gF (zG z) sn)) (p2 := (pFol (vA (zX z)) (s d) &&& pEn (vA (zX z)) 1 (gK (zG z) sn))) (w := w) (s := s) (t := t) (w' := upF w (d + 1) (gF (zG z) sn)) (s' := upF s (d + 1) (pFol (vA (zX z)) (s d) &&& pEn (vA (zX z)) 1 (gK (zG z) sn))) (t' := upF (upF t d (t d + 1)) (d + 1) 0) hg (fun l hl => ⟨upF_n hl, upF_n hl⟩) (fun l h1 h2 => (upF_n h2).trans (upF_n h1)) ((upF_n (by omega)).trans (upF_s _ _ _)) (upF_s _ _ _) (upF_s _ _ _) (upF_s _ _ _) hoN hyes).2 (Nat.le_of_lt_succ hfu)) (by omega) (by rw [Nat.add_assoc, (ts_yes (v := zG z) (A := vA (zX z)) (q := qn) (n := nn) (d := d) (g := g) (h2 := (gF (zG z) sn)) (p2 := (pFol (vA (zX z)) (s d) &&& pEn (vA (zX z)) 1 (gK (zG z) sn))) (w := w) (s := s) (t := t) (w' := upF w (d + 1) (gF (zG z) sn)) (s' := upF s (d + 1) (pFol (vA (zX z)) (s d) &&& pEn (vA (zX z)) 1 (gK (zG z) sn))) (t' := upF (upF t d (t d + 1)) (d + 1) 0) hg (fun l hl => ⟨upF_n hl, upF_n hl⟩) (fun l h1 h2 => (upF_n h2).trans (upF_n h1)) ((upF_n (by omega)).trans (upF_s _ _ _)) (upF_s _ _ _) (upF_s _ _ _) (upF_s _ _ _) hoN hyes).1]; exact hx) (sk_yes hsk (by omega) hbs.1 (mx_and_lt (pFol_lt hwfp _))) (fun b k q1 q2 q3 => by rw [mx_u_at, if_neg (by omega), mx_u_at, if_neg (by omega), mx_u_at, if_neg (by omega), mx_u_at, if_neg (by omega)]; exact hfr b k q1 q2 q3)
                          · skip
                            exact absurd c290 c190
                      · skip
                        exact absurd c234 c190
                  · skip
                    
                    refine mx_iconstN 0 dX10_paths_193 (by decide) ?_
                    refine mx_goto (tgt := 198) dX10_paths_194 (by decide) ?_
                    refine mx_iaddN dX10_paths_198 ?_
                    refine mx_ialdV (3 + 4 * sn) (nI (gF (zG z) sn)) dX10_paths_199 (by assumption) ⟨rfl, by rw [l_now]; omega, by rw [l_now]; decide⟩ (by rw [mx_u_at, if_neg (by omega)]; exact (hg5.2.2.2 sn (by omega)).1) ?_
                    refine mx_aload_n (i := 0) (hi := rfl) (hl := rfl) (hd := dX10_paths_200) ?_
                    refine mx_getR (ci := 10) (k := 29) (r := (m + 20)) dX10_paths_201 k_1042 (by decide) rfl (by assumption) (by assumption) (by omega) ?_
                    refine mx_iload (i := 5) (hl := rfl) (hd := dX10_paths_204) ?_
                    refine mx_ialdV d (nI (w d)) dX10_paths_206 (by assumption) ⟨rfl, by rw [l_who]; omega, by rw [l_who]; decide⟩ (by rw [mx_u_at, if_neg (by omega)]; exact hsk9.1) ?_
                    refine mx_cmpN_ne 214 dX10_paths_207 (by decide) (by omega) (by omega) (fun c207 => ?_) (fun c207 => ?_)
                    · skip
                      have hno := cfO_0n (v := zG z) (A := vA (zX z)) (q := qn) (g := g) (ps := s d) c190 hsn (fun q9 => c207 q9.1)
                      refine mx_iconstN 0 dX10_paths_214 (by decide) ?_
                      refine mx_istoreE (i := 9) (ls' := [some (.ref m), some (.int (nI pn)), some (.int (nI qn)), some (.int (nI nn)), some (.int (nI c)), some (.int (nI d)), some (.int (nI (t d))), some (.int (nI sn)), some (.int (nI (gK (zG z) sn))), some (.int (nI 0)), none]) (hd := dX10_paths_215) (hn := by decide) (hok := rfl) (hls := rfl) ?_
                      refine mx_iload (i := 9) (hl := rfl) (hd := dX10_paths_217) ?_
                      refine mx_if0_eq 260 dX10_paths_219 (by decide) ?_
                      refine mx_iconstN 0 dX10_paths_260 (by decide) ?_
                      refine mx_istoreE (i := 10) (ls' := [some (.ref m), some (.int (nI pn)), some (.int (nI qn)), some (.int (nI nn)), some (.int (nI c)), some (.int (nI d)), some (.int (nI (t d))), some (.int (nI sn)), some (.int (nI (gK (zG z) sn))), some (.int (nI 0)), some (.int (nI 0))]) (hd := dX10_paths_261) (hn := by decide) (hok := rfl) (hls := rfl) ?_
                      refine mx_iload (i := 10) (hl := rfl) (hd := dX10_paths_263) ?_
                      refine mx_if0_eq 348 dX10_paths_265 (by decide) ?_
                      rw [← dpI_s d]
                      refine mx_goto (tgt := 107) dX10_paths_348 (by decide) ?_
                      refine mx_leS (ls' := [some (.ref m), some (.int (nI pn)), some (.int (nI qn)), some (.int (nI nn)), some (.int (nI c)), some (.int (dpI (d + 1))), none, none, none, none, none]) ⟨rfl, rfl, rfl, rfl, rfl, rfl, trivial⟩ ?_
                      exact ih (d + 1) c w s (upF t d (t d + 1)) _ (Nat.lt_of_lt_of_le (ts_no (v := zG z) (A := vA (zX z)) (q := qn) (w := w) (s := s) hg (fun l hl => upF_n hl) (upF_s _ _ _) hoN hno).2 (Nat.le_of_lt_succ hfu)) he (by rw [(ts_no hg (fun l hl => upF_n hl) (upF_s _ _ _) hoN hno).1]; exact hx) (sk_no hsk (by omega)) (fun b k q1 q2 q3 => by rw [mx_u_at, if_neg (by omega)]; exact hfr b k q1 q2 q3)
                    · skip
                      refine mx_iconstN 1 dX10_paths_210 (by decide) ?_
                      refine mx_goto (tgt := 215) dX10_paths_211 (by decide) ?_
                      refine mx_istoreE (i := 9) (ls' := [some (.ref m), some (.int (nI pn)), some (.int (nI qn)), some (.int (nI nn)), some (.int (nI c)), some (.int (nI d)), some (.int (nI (t d))), some (.int (nI sn)), some (.int (nI (gK (zG z) sn))), some (.int (nI 1)), none]) (hd := dX10_paths_215) (hn := by decide) (hok := rfl) (hls := rfl) ?_
                      refine mx_iload (i := 9) (hl := rfl) (hd := dX10_paths_217) ?_
                      refine mx_if1_eq 260 dX10_paths_219 (by decide) ?_
                      refine mx_aload_n (i := 0) (hi := rfl) (hl := rfl) (hd := dX10_paths_222) ?_
                      refine mx_aload_n (i := 0) (hi := rfl) (hl := rfl) (hd := dX10_paths_223) ?_
                      refine mx_getR (ci := 10) (k := 30) (r := (m + 21)) dX10_paths_224 k_1043 (by decide) rfl (by assumption) (by assumption) (by omega) ?_
                      refine mx_iload (i := 5) (hl := rfl) (hd := dX10_paths_227) ?_
                      refine mx_ialdV d (nI (s d)) dX10_paths_229 (by assumption) ⟨rfl, by rw [l_sets]; omega, by rw [l_sets]; decide⟩ (by rw [mx_u_at, if_neg (by omega)]; exact hsk9.2.1) ?_
                      refine mx_iload (i := 6) (hl := rfl) (hd := dX10_paths_230) ?_
                      refine mx_iconstN 2 dX10_paths_232 (by decide) ?_
                      refine mx_iremN dX10_paths_233 (by omega) (by decide) ?_
                      refine mx_ifN_ne 247 dX10_paths_234 (by decide) (by omega) (fun c234 => ?_) (fun c234 => ?_)
                      · skip
                        exact absurd c190 c234
                      · skip
                        
                        refine mx_aload_n (i := 0) (hi := rfl) (hl := rfl) (hd := dX10_paths_237) ?_
                        refine mx_getR (ci := 10) (k := 25) (r := (m + 18)) dX10_paths_238 k_1038 (by decide) rfl (by assumption) (by assumption) (by omega) ?_
                        refine mx_iload (i := 8) (hl := rfl) (hd := dX10_paths_241) ?_
                        refine mx_ialdV (gK (zG z) sn) (nI (pEn (vA (zX z)) 0 (gK (zG z) sn))) dX10_paths_243 (by assumption) ⟨rfl, by rw [l_on]; exact hbs.2.1, by rw [l_on]; decide⟩ (by rw [mx_u_at, if_neg (by omega)]; exact (g1 _ hbs.2.1)) ?_
                        refine mx_goto (tgt := 254) dX10_paths_244 (by decide) ?_
                        refine mx_callVp (ci := 10) (As := [.int (nI (s d)), .int (nI (pEn (vA (zX z)) 0 (gK (zG z) sn)))]) (rest := []) dX10_paths_254 (mt_behind G (mx_u I5 (m + 22) d (nI (t d + 1))) m hs0 (vA (zX z)) (ha5.k (fun j _ _ => by rw [mx_u_at, if_neg (by omega)]) (fun b k _ _ => by rw [mx_u_at, if_neg (by omega)])) hA9 (s d) (pEn (vA (zX z)) 0 (gK (zG z) sn)) (Nat.lt_trans hsk9.2.2.2.2.1 (by decide))) km_X10_behind rfl k_1334 k_1336 k_52 (by assumption) rfl rfl (Nat.le_of_ble_eq_true rfl) (by decide) ?_
                        refine mx_goto (tgt := 261) dX10_paths_257 (by decide) ?_
                        refine mx_istoreE (i := 10) (ls' := [some (.ref m), some (.int (nI pn)), some (.int (nI qn)), some (.int (nI nn)), some (.int (nI c)), some (.int (nI d)), some (.int (nI (t d))), some (.int (nI sn)), some (.int (nI (gK (zG z) sn))), some (.int (nI 1)), some (.int (nI (pFol (vA (zX z)) (s d) &&& pEn (vA (zX z)) 0 (gK (zG z) sn))))]) (hd := dX10_paths_261) (hn := by decide) (hok := rfl) (hls := rfl) ?_
                        refine mx_iload (i := 10) (hl := rfl) (hd := dX10_paths_263) ?_
                        refine mx_ifN_eq 348 dX10_paths_265 (by decide) (Nat.lt_trans (mx_and_lt (pFol_lt hwfp _)) (by decide)) (fun c265 => ?_) (fun c265 => ?_)
                        · skip
                          have hno := cfO_0n (v := zG z) (A := vA (zX z)) (q := qn) (g := g) (here := w d) (ps := s d) c190 hsn (fun q9 => q9.2 c265)
                          rw [← dpI_s d]
                          refine mx_goto (tgt := 107) dX10_paths_348 (by decide) ?_
                          refine mx_leS (ls' := [some (.ref m), some (.int (nI pn)), some (.int (nI qn)), some (.int (nI nn)), some (.int (nI c)), some (.int (dpI (d + 1))), none, none, none, none, none]) ⟨rfl, rfl, rfl, rfl, rfl, rfl, trivial⟩ ?_
                          exact ih (d + 1) c w s (upF t d (t d + 1)) _ (Nat.lt_of_lt_of_le (ts_no (v := zG z) (A := vA (zX z)) (q := qn) (w := w) (s := s) hg (fun l hl => upF_n hl) (upF_s _ _ _) hoN hno).2 (Nat.le_of_lt_succ hfu)) he (by rw [(ts_no hg (fun l hl => upF_n hl) (upF_s _ _ _) hoN hno).1]; exact hx) (sk_no hsk (by omega)) (fun b k q1 q2 q3 => by rw [mx_u_at, if_neg (by omega)]; exact hfr b k q1 q2 q3)
                        · skip
                          have hyes := cfO_0y (v := zG z) (A := vA (zX z)) (q := qn) (g := g) c190 hsn ⟨c207, c265⟩
                          refine mx_iincE (i := 5) (ls' := [some (.ref m), some (.int (nI pn)), some (.int (nI qn)), some (.int (nI nn)), some (.int (nI c)), some (.int (nI (d + 1))), some (.int (nI (t d))), some (.int (nI sn)), some (.int (nI (gK (zG z) sn))), some (.int (nI 1)), some (.int (nI (pFol (vA (zX z)) (s d) &&& pEn (vA (zX z)) 0 (gK (zG z) sn))))]) 1 dX10_paths_268 rfl (by decide) (by decide) rfl rfl ?_
                          refine mx_aload_n (i := 0) (hi := rfl) (hl := rfl) (hd := dX10_paths_271) ?_
                          refine mx_getR (ci := 10) (k := 29) (r := (m + 20)) dX10_paths_272 k_1042 (by decide) rfl (by assumption) (by assumption) (by omega) ?_
                          refine mx_iload (i := 5) (hl := rfl) (hd := dX10_paths_275) ?_
                          refine mx_aload_n (i := 0) (hi := rfl) (hl := rfl) (hd := dX10_paths_277) ?_
                          refine mx_getR (ci := 10) (k := 5) (r := (m + 3)) dX10_paths_278 k_1018 (by decide) rfl (by assumption) (by assumption) (by omega) ?_
                          refine mx_iload (i := 7) (hl := rfl) (hd := dX10_paths_281) ?_
                          refine mx_callSp (As := [.int (nI sn)]) (rest := [.ref (m + 3), .int (nI (d + 1)), .ref (m + 20)]) dX10_paths_283 (mt_at G (mx_u I5 (m + 22) d (nI (t d + 1))) sn) km_X10_at rfl k_1180 k_1181 rfl rfl (Nat.le_of_ble_eq_true rfl) (by decide) ?_
                          refine mx_iload (i := 6) (hl := rfl) (hd := dX10_paths_286) ?_
                          refine mx_iconstN 2 dX10_paths_288 (by decide) ?_
                          refine mx_iremN dX10_paths_289 (by omega) (by decide) ?_
                          refine mx_ifN_ne 297 dX10_paths_290 (by decide) (by omega) (fun c290 => ?_) (fun c290 => ?_)
                          · skip
                            exact absurd c190 c290
                          · skip
                            
                            refine mx_iconstN 2 dX10_paths_293 (by decide) ?_
                            refine mx_goto (tgt := 298) dX10_paths_294 (by decide) ?_
                            refine mx_iaddN dX10_paths_298 ?_
                            refine mx_ialdV (3 + 4 * sn + 2) (nI (gT (zG z) sn)) dX10_paths_299 (by assumption) ⟨rfl, by rw [l_now]; omega, by rw [l_now]; decide⟩ (by rw [mx_u_at, if_neg (by omega)]; exact (hg5.2.2.2 sn (by omega)).2.2.1) ?_
                            refine mx_iast (d + 1) dX10_paths_300 (by assumption) ⟨rfl, by rw [l_who]; omega, by rw [l_who]; decide⟩ ?_
                            refine mx_aload_n (i := 0) (hi := rfl) (hl := rfl) (hd := dX10_paths_301) ?_
                            refine mx_getR (ci := 10) (k := 30) (r := (m + 21)) dX10_paths_302 k_1043 (by decide) rfl (by assumption) (by assumption) (by omega) ?_
                            refine mx_iload (i := 5) (hl := rfl) (hd := dX10_paths_305) ?_
                            refine mx_iload (i := 10) (hl := rfl) (hd := dX10_paths_307) ?_
                            refine mx_iast (d + 1) dX10_paths_309 (by assumption) ⟨rfl, by rw [l_sets]; omega, by rw [l_sets]; decide⟩ ?_
                            refine mx_aload_n (i := 0) (hi := rfl) (hl := rfl) (hd := dX10_paths_310) ?_
                            refine mx_getR (ci := 10) (k := 31) (r := (m + 22)) dX10_paths_311 k_1044 (by decide) rfl (by assumption) (by assumption) (by omega) ?_
                            refine mx_iload (i := 5) (hl := rfl) (hd := dX10_paths_314) ?_
                            refine mx_iconstN 0 dX10_paths_316 (by decide) ?_
                            refine mx_iast (d + 1) dX10_paths_317 (by assumption) ⟨rfl, by rw [l_tried]; omega, by rw [l_tried]; decide⟩ ?_
                            refine mx_iload (i := 4) (hl := rfl) (hd := dX10_paths_318) ?_
                            refine mx_aload_n (i := 0) (hi := rfl) (hl := rfl) (hd := dX10_paths_320) ?_
                            refine mx_getR (ci := 10) (k := 29) (r := (m + 20)) dX10_paths_321 k_1042 (by decide) rfl (by assumption) (by assumption) (by omega) ?_
                            refine mx_iload (i := 5) (hl := rfl) (hd := dX10_paths_324) ?_
                            refine mx_ialdV (d + 1) (nI (gT (zG z) sn)) dX10_paths_326 (by assumption) ⟨rfl, by rw [l_who]; omega, by rw [l_who]; decide⟩ (by rw [mx_u_at, if_neg (by omega), mx_u_at, if_neg (by omega), mx_u_at, if_pos ⟨rfl, rfl⟩]) ?_
                            refine mx_iload_n (i := 2) (hi := rfl) (hl := rfl) (hd := dX10_paths_327) ?_
                            refine mx_cmpN_ne 344 dX10_paths_328 (by decide) (by omega) (by omega) (fun c328 => ?_) (fun c328 => ?_)
                            · skip
                              refine mx_iconstN 0 dX10_paths_344 (by decide) ?_
                              refine mx_top (y := nI (hitC (vA (zX z)) qn (gT (zG z) sn) (pFol (vA (zX z)) (s d) &&& pEn (vA (zX z)) 0 (gK (zG z) sn)))) (congrArg nI (show 0 = hitC (vA (zX z)) qn (gT (zG z) sn) (pFol (vA (zX z)) (s d) &&& pEn (vA (zX z)) 0 (gK (zG z) sn)) from Eq.symm (if_neg (by first | exact fun q9 => c328 q9.1 | exact fun q9 => c337 q9.2)))) ?_
                              refine mx_iaddN dX10_paths_345 ?_
                              refine mx_istoreE (i := 4) (ls' := [some (.ref m), some (.int (nI pn)), some (.int (nI qn)), some (.int (nI nn)), some (.int (nI (c + (hitC (vA (zX z)) qn (gT (zG z) sn) (pFol (vA (zX z)) (s d) &&& pEn (vA (zX z)) 0 (gK (zG z) sn)))))), some (.int (nI (d + 1))), some (.int (nI (t d))), some (.int (nI sn)), some (.int (nI (gK (zG z) sn))), some (.int (nI 1)), some (.int (nI (pFol (vA (zX z)) (s d) &&& pEn (vA (zX z)) 0 (gK (zG z) sn))))]) (hd := dX10_paths_346) (hn := by decide) (hok := rfl) (hls := rfl) ?_
                              rw [← dpI_s (d + 1)]
                              refine mx_goto (tgt := 107) dX10_paths_348 (by decide) ?_
                              refine mx_leS (ls' := [some (.ref m), some (.int (nI pn)), some (.int (nI qn)), some (.int (nI nn)), some (.int (nI (c + (hitC (vA (zX z)) qn (gT (zG z) sn) (pFol (vA (zX z)) (s d) &&& pEn (vA (zX z)) 0 (gK (zG z) sn)))))), some (.int (dpI (d + 1 + 1))), none, none, none, none, none]) ⟨rfl, rfl, rfl, rfl, rfl, rfl, trivial⟩ ?_
                              exact ih (d + 2) (c + hitC (vA (zX z)) qn (gT (zG z) sn) (pFol (vA (zX z)) (s d) &&& pEn (vA (zX z)) 0 (gK (zG z) sn))) (upF w (d + 1) (gT (zG z) sn)) (upF s (d + 1) (pFol (vA (zX z)) (s d) &&& pEn (vA (zX z)) 0 (gK (zG z) sn))) (upF (upF t d (t d + 1)) (d + 1) 0) _ (Nat.lt_of_lt_of_le (ts_yes (v := zG z) (A := vA (zX z)) (q := qn) (n := nn) (d := d) (g := g) (h2 := (gT (zG z) sn)) (p2 := (pFol (vA (zX z)) (s d) &&& pEn (vA (zX z)) 0 (gK (zG z) sn))) (w := w) (s := s) (t := t) (w' := upF w (d + 1) (gT (zG z) sn)) (s' := upF s (d + 1) (pFol (vA (zX z)) (s d) &&& pEn (vA (zX z)) 0 (gK (zG z) sn))) (t' := upF (upF t d (t d + 1)) (d + 1) 0) hg (fun l hl => ⟨upF_n hl, upF_n hl⟩) (fun l h1 h2 => (upF_n h2).trans (upF_n h1)) ((upF_n (by omega)).trans (upF_s _ _ _)) (upF_s _ _ _) (upF_s _ _ _) (upF_s _ _ _) hoN hyes).2 (Nat.le_of_lt_succ hfu)) (by omega) (by rw [Nat.add_assoc, (ts_yes (v := zG z) (A := vA (zX z)) (q := qn) (n := nn) (d := d) (g := g) (h2 := (gT (zG z) sn)) (p2 := (pFol (vA (zX z)) (s d) &&& pEn (vA (zX z)) 0 (gK (zG z) sn))) (w := w) (s := s) (t := t) (w' := upF w (d + 1) (gT (zG z) sn)) (s' := upF s (d + 1) (pFol (vA (zX z)) (s d) &&& pEn (vA (zX z)) 0 (gK (zG z) sn))) (t' := upF (upF t d (t d + 1)) (d + 1) 0) hg (fun l hl => ⟨upF_n hl, upF_n hl⟩) (fun l h1 h2 => (upF_n h2).trans (upF_n h1)) ((upF_n (by omega)).trans (upF_s _ _ _)) (upF_s _ _ _) (upF_s _ _ _) (upF_s _ _ _) hoN hyes).1]; exact hx) (sk_yes hsk (by omega) hbs.2.2.1 (mx_and_lt (pFol_lt hwfp _))) (fun b k q1 q2 q3 => by rw [mx_u_at, if_neg (by omega), mx_u_at, if_neg (by omega), mx_u_at, if_neg (by omega), mx_u_at, if_neg (by omega)]; exact hfr b k q1 q2 q3)
                            · skip
                              refine mx_aload_n (i := 0) (hi := rfl) (hl := rfl) (hd := dX10_paths_331) ?_
                              refine mx_iload (i := 10) (hl := rfl) (hd := dX10_paths_332) ?_
                              refine mx_callVp (ci := 10) (As := [.int (nI (pFol (vA (zX z)) (s d) &&& pEn (vA (zX z)) 0 (gK (zG z) sn)))]) (rest := [.int (nI c)]) dX10_paths_334 (mt_isEnd G (mx_u (mx_u (mx_u (mx_u I5 (m + 22) d (nI (t d + 1))) (m + 20) (d + 1) (nI (gT (zG z) sn))) (m + 21) (d + 1) (nI (pFol (vA (zX z)) (s d) &&& pEn (vA (zX z)) 0 (gK (zG z) sn)))) (m + 22) (d + 1) (nI 0)) m hs0 (vA (zX z)) (ha5.k (fun j _ _ => by rw [mx_u_at, if_neg (by omega), mx_u_at, if_neg (by omega), mx_u_at, if_neg (by omega), mx_u_at, if_neg (by omega)]) (fun b k _ _ => by rw [mx_u_at, if_neg (by omega), mx_u_at, if_neg (by omega), mx_u_at, if_neg (by omega), mx_u_at, if_neg (by omega)])) hA9 (pFol (vA (zX z)) (s d) &&& pEn (vA (zX z)) 0 (gK (zG z) sn)) (Nat.lt_trans (mx_and_lt (pFol_lt hwfp _)) (by decide))) km_X10_isEnd rfl k_1223 k_1225 k_45 (by assumption) rfl rfl (Nat.le_of_ble_eq_true rfl) (by decide) ?_
                              refine mx_ifB_eq 344 dX10_paths_337 (by decide) (fun c337 => ?_) (fun c337 => ?_)
                              · skip
                                refine mx_iconstN 0 dX10_paths_344 (by decide) ?_
                                refine mx_top (y := nI (hitC (vA (zX z)) qn (gT (zG z) sn) (pFol (vA (zX z)) (s d) &&& pEn (vA (zX z)) 0 (gK (zG z) sn)))) (congrArg nI (show 0 = hitC (vA (zX z)) qn (gT (zG z) sn) (pFol (vA (zX z)) (s d) &&& pEn (vA (zX z)) 0 (gK (zG z) sn)) from Eq.symm (if_neg (by first | exact fun q9 => c328 q9.1 | exact fun q9 => c337 q9.2)))) ?_
                                refine mx_iaddN dX10_paths_345 ?_
                                refine mx_istoreE (i := 4) (ls' := [some (.ref m), some (.int (nI pn)), some (.int (nI qn)), some (.int (nI nn)), some (.int (nI (c + (hitC (vA (zX z)) qn (gT (zG z) sn) (pFol (vA (zX z)) (s d) &&& pEn (vA (zX z)) 0 (gK (zG z) sn)))))), some (.int (nI (d + 1))), some (.int (nI (t d))), some (.int (nI sn)), some (.int (nI (gK (zG z) sn))), some (.int (nI 1)), some (.int (nI (pFol (vA (zX z)) (s d) &&& pEn (vA (zX z)) 0 (gK (zG z) sn))))]) (hd := dX10_paths_346) (hn := by decide) (hok := rfl) (hls := rfl) ?_
                                rw [← dpI_s (d + 1)]
                                refine mx_goto (tgt := 107) dX10_paths_348 (by decide) ?_
                                refine mx_leS (ls' := [some (.ref m), some (.int (nI pn)), some (.int (nI qn)), some (.int (nI nn)), some (.int (nI (c + (hitC (vA (zX z)) qn (gT (zG z) sn) (pFol (vA (zX z)) (s d) &&& pEn (vA (zX z)) 0 (gK (zG z) sn)))))), some (.int (dpI (d + 1 + 1))), none, none, none, none, none]) ⟨rfl, rfl, rfl, rfl, rfl, rfl, trivial⟩ ?_
                                exact ih (d + 2) (c + hitC (vA (zX z)) qn (gT (zG z) sn) (pFol (vA (zX z)) (s d) &&& pEn (vA (zX z)) 0 (gK (zG z) sn))) (upF w (d + 1) (gT (zG z) sn)) (upF s (d + 1) (pFol (vA (zX z)) (s d) &&& pEn (vA (zX z)) 0 (gK (zG z) sn))) (upF (upF t d (t d + 1)) (d + 1) 0) _ (Nat.lt_of_lt_of_le (ts_yes (v := zG z) (A := vA (zX z)) (q := qn) (n := nn) (d := d) (g := g) (h2 := (gT (zG z) sn)) (p2 := (pFol (vA (zX z)) (s d) &&& pEn (vA (zX z)) 0 (gK (zG z) sn))) (w := w) (s := s) (t := t) (w' := upF w (d + 1) (gT (zG z) sn)) (s' := upF s (d + 1) (pFol (vA (zX z)) (s d) &&& pEn (vA (zX z)) 0 (gK (zG z) sn))) (t' := upF (upF t d (t d + 1)) (d + 1) 0) hg (fun l hl => ⟨upF_n hl, upF_n hl⟩) (fun l h1 h2 => (upF_n h2).trans (upF_n h1)) ((upF_n (by omega)).trans (upF_s _ _ _)) (upF_s _ _ _) (upF_s _ _ _) (upF_s _ _ _) hoN hyes).2 (Nat.le_of_lt_succ hfu)) (by omega) (by rw [Nat.add_assoc, (ts_yes (v := zG z) (A := vA (zX z)) (q := qn) (n := nn) (d := d) (g := g) (h2 := (gT (zG z) sn)) (p2 := (pFol (vA (zX z)) (s d) &&& pEn (vA (zX z)) 0 (gK (zG z) sn))) (w := w) (s := s) (t := t) (w' := upF w (d + 1) (gT (zG z) sn)) (s' := upF s (d + 1) (pFol (vA (zX z)) (s d) &&& pEn (vA (zX z)) 0 (gK (zG z) sn))) (t' := upF (upF t d (t d + 1)) (d + 1) 0) hg (fun l hl => ⟨upF_n hl, upF_n hl⟩) (fun l h1 h2 => (upF_n h2).trans (upF_n h1)) ((upF_n (by omega)).trans (upF_s _ _ _)) (upF_s _ _ _) (upF_s _ _ _) (upF_s _ _ _) hoN hyes).1]; exact hx) (sk_yes hsk (by omega) hbs.2.2.1 (mx_and_lt (pFol_lt hwfp _))) (fun b k q1 q2 q3 => by rw [mx_u_at, if_neg (by omega), mx_u_at, if_neg (by omega), mx_u_at, if_neg (by omega), mx_u_at, if_neg (by omega)]; exact hfr b k q1 q2 q3)
                              · skip
                                refine mx_iconstN 1 dX10_paths_340 (by decide) ?_
                                refine mx_goto (tgt := 345) dX10_paths_341 (by decide) ?_
                                refine mx_top (y := nI (hitC (vA (zX z)) qn (gT (zG z) sn) (pFol (vA (zX z)) (s d) &&& pEn (vA (zX z)) 0 (gK (zG z) sn)))) (congrArg nI (show 1 = hitC (vA (zX z)) qn (gT (zG z) sn) (pFol (vA (zX z)) (s d) &&& pEn (vA (zX z)) 0 (gK (zG z) sn)) from Eq.symm (if_pos ⟨c328, c337⟩))) ?_
                                refine mx_iaddN dX10_paths_345 ?_
                                refine mx_istoreE (i := 4) (ls' := [some (.ref m), some (.int (nI pn)), some (.int (nI qn)), some (.int (nI nn)), some (.int (nI (c + (hitC (vA (zX z)) qn (gT (zG z) sn) (pFol (vA (zX z)) (s d) &&& pEn (vA (zX z)) 0 (gK (zG z) sn)))))), some (.int (nI (d + 1))), some (.int (nI (t d))), some (.int (nI sn)), some (.int (nI (gK (zG z) sn))), some (.int (nI 1)), some (.int (nI (pFol (vA (zX z)) (s d) &&& pEn (vA (zX z)) 0 (gK (zG z) sn))))]) (hd := dX10_paths_346) (hn := by decide) (hok := rfl) (hls := rfl) ?_
                                rw [← dpI_s (d + 1)]
                                refine mx_goto (tgt := 107) dX10_paths_348 (by decide) ?_
                                refine mx_leS (ls' := [some (.ref m), some (.int (nI pn)), some (.int (nI qn)), some (.int (nI nn)), some (.int (nI (c + (hitC (vA (zX z)) qn (gT (zG z) sn) (pFol (vA (zX z)) (s d) &&& pEn (vA (zX z)) 0 (gK (zG z) sn)))))), some (.int (dpI (d + 1 + 1))), none, none, none, none, none]) ⟨rfl, rfl, rfl, rfl, rfl, rfl, trivial⟩ ?_
                                exact ih (d + 2) (c + hitC (vA (zX z)) qn (gT (zG z) sn) (pFol (vA (zX z)) (s d) &&& pEn (vA (zX z)) 0 (gK (zG z) sn))) (upF w (d + 1) (gT (zG z) sn)) (upF s (d + 1) (pFol (vA (zX z)) (s d) &&& pEn (vA (zX z)) 0 (gK (zG z) sn))) (upF (upF t d (t d + 1)) (d + 1) 0) _ (Nat.lt_of_lt_of_le (ts_yes (v := zG z) (A := vA (zX z)) (q := qn) (n := nn) (d := d) (g := g) (h2 := (gT (zG z) sn)) (p2 := (pFol (vA (zX z)) (s d) &&& pEn (vA (zX z)) 0 (gK (zG z) sn))) (w := w) (s := s) (t := t) (w' := upF w (d + 1) (gT (zG z) sn)) (s' := upF s (d + 1) (pFol (vA (zX z)) (s d) &&& pEn (vA (zX z)) 0 (gK (zG z) sn))) (t' := upF (upF t d (t d + 1)) (d + 1) 0) hg (fun l hl => ⟨upF_n hl, upF_n hl⟩) (fun l h1 h2 => (upF_n h2).trans (upF_n h1)) ((upF_n (by omega)).trans (upF_s _ _ _)) (upF_s _ _ _) (upF_s _ _ _) (upF_s _ _ _) hoN hyes).2 (Nat.le_of_lt_succ hfu)) (by omega) (by rw [Nat.add_assoc, (ts_yes (v := zG z) (A := vA (zX z)) (q := qn) (n := nn) (d := d) (g := g) (h2 := (gT (zG z) sn)) (p2 := (pFol (vA (zX z)) (s d) &&& pEn (vA (zX z)) 0 (gK (zG z) sn))) (w := w) (s := s) (t := t) (w' := upF w (d + 1) (gT (zG z) sn)) (s' := upF s (d + 1) (pFol (vA (zX z)) (s d) &&& pEn (vA (zX z)) 0 (gK (zG z) sn))) (t' := upF (upF t d (t d + 1)) (d + 1) 0) hg (fun l hl => ⟨upF_n hl, upF_n hl⟩) (fun l h1 h2 => (upF_n h2).trans (upF_n h1)) ((upF_n (by omega)).trans (upF_s _ _ _)) (upF_s _ _ _) (upF_s _ _ _) (upF_s _ _ _) hoN hyes).1]; exact hx) (sk_yes hsk (by omega) hbs.2.2.1 (mx_and_lt (pFol_lt hwfp _))) (fun b k q1 q2 q3 => by rw [mx_u_at, if_neg (by omega), mx_u_at, if_neg (by omega), mx_u_at, if_neg (by omega), mx_u_at, if_neg (by omega)]; exact hfr b k q1 q2 q3)
                · skip
                  have hpo : 2 * gN (zG z) ≤ t d ∨ nn - d = 0 := Or.inr (by omega)
                  refine mx_iinc (i := 5) (v := dpI d) (hl := rfl) (hd := dX10_paths_151) (hv := dpI_p d) (hn := by decide) (hok := rfl) ?_
                  refine mx_goto (tgt := 348) dX10_paths_154 (by decide) ?_
                  refine mx_goto (tgt := 107) dX10_paths_348 (by decide) ?_
                  refine mx_leS (ls' := [some (.ref m), some (.int (nI pn)), some (.int (nI qn)), some (.int (nI nn)), some (.int (nI c)), some (.int (dpI d)), none, none, none, none, none]) ⟨rfl, rfl, rfl, rfl, rfl, rfl, trivial⟩ ?_
                  exact ih d c w s (upF t d (t d + 1)) _ (Nat.lt_of_lt_of_le (ts_pop (v := zG z) (A := vA (zX z)) (q := qn) (w := w) (s := s) (fun l hl => upF_n hl) hpo).2 (Nat.le_of_lt_succ hfu)) (by omega) (by rw [(ts_pop (fun l hl => upF_n hl) hpo).1]; exact hx) (sk_pop hsk) (fun b k q1 q2 q3 => by rw [mx_u_at, if_neg (by omega)]; exact hfr b k q1 q2 q3)
        refine mx_iconstN 0 dX10_paths_83 (by decide) ?_
        refine mx_top (y := dpI 1) ((dpI_s 0).symm) ?_
        refine mx_istoreE (i := 5) (ls' := [some (.ref m), some (.int (nI pn)), some (.int (nI qn)), some (.int (nI nn)), some (.int (nI (hitC (vA (zX z)) qn pn 1))), some (.int (dpI 1)), none, none, none, none, none]) (hd := dX10_paths_84) (hn := by decide) (hok := rfl) (hls := rfl) ?_
        refine mx_aload_n (i := 0) (hi := rfl) (hl := rfl) (hd := dX10_paths_86) ?_
        refine mx_getR (ci := 10) (k := 29) (r := (m + 20)) dX10_paths_87 k_1042 (by decide) rfl (by assumption) (by assumption) (by omega) ?_
        refine mx_iconstN 0 dX10_paths_90 (by decide) ?_
        refine mx_iload_n (i := 1) (hi := rfl) (hl := rfl) (hd := dX10_paths_91) ?_
        refine mx_iast 0 dX10_paths_92 (by assumption) ⟨rfl, by rw [l_who]; decide, by rw [l_who]; decide⟩ ?_
        refine mx_aload_n (i := 0) (hi := rfl) (hl := rfl) (hd := dX10_paths_93) ?_
        refine mx_getR (ci := 10) (k := 30) (r := (m + 21)) dX10_paths_94 k_1043 (by decide) rfl (by assumption) (by assumption) (by omega) ?_
        refine mx_iconstN 0 dX10_paths_97 (by decide) ?_
        refine mx_iconstN 1 dX10_paths_98 (by decide) ?_
        refine mx_iast 0 dX10_paths_99 (by assumption) ⟨rfl, by rw [l_sets]; decide, by rw [l_sets]; decide⟩ ?_
        refine mx_aload_n (i := 0) (hi := rfl) (hl := rfl) (hd := dX10_paths_100) ?_
        refine mx_getR (ci := 10) (k := 31) (r := (m + 22)) dX10_paths_101 k_1044 (by decide) rfl (by assumption) (by assumption) (by omega) ?_
        refine mx_iconstN 0 dX10_paths_104 (by decide) ?_
        refine mx_iconstN 0 dX10_paths_105 (by decide) ?_
        refine mx_iast 0 dX10_paths_106 (by assumption) ⟨rfl, by rw [l_tried]; decide, by rw [l_tried]; decide⟩ ?_
        exact L107 _ 1 (hitC (vA (zX z)) qn pn 1) (fun _ => pn) (fun _ => 1) (fun _ => 0) _ (Nat.lt_succ_self _) (by omega) (by rw [cF_R]; show _ + (0 + cR _ _ _ (nn - 0) pn 1 0) = _; rw [Nat.zero_add, Nat.sub_zero]) (sk_1 hpn8) (fun b k q1 q2 q3 => by rw [mx_u_at, if_neg (by omega), mx_u_at, if_neg (by omega), mx_u_at, if_neg (by omega)])
      refine mx_iload_n (i := 1) (hi := rfl) (hl := rfl) (hd := dX10_paths_64) ?_
      refine mx_iload_n (i := 2) (hi := rfl) (hl := rfl) (hd := dX10_paths_65) ?_
      refine mx_cmpN_ne 80 dX10_paths_66 (by decide) (by omega) (by omega) (fun c66 => ?_) (fun c66 => ?_)
      · skip
        refine mx_iconstN 0 dX10_paths_80 (by decide) ?_
        refine mx_top (y := nI (hitC (vA (zX z)) qn pn 1)) (congrArg nI (show 0 = hitC (vA (zX z)) qn pn 1 from Eq.symm (if_neg (by first | exact fun q9 => c66 q9.1 | exact fun q9 => c73 (hem.mpr q9.2))))) ?_
        exact J81 () f1 f2 ha3 hS3 hg3
      · skip
        refine mx_aload_n (i := 0) (hi := rfl) (hl := rfl) (hd := dX10_paths_69) ?_
        refine mx_getV (ci := 10) (k := 12) (mx_b (decide (em9 = true)) : Int32) dX10_paths_70 k_1025 (by decide) rfl (by assumption) (hem9.trans (congrArg mx_b Bool.decide_eq_true.symm)) ?_
        refine mx_ifB_eq 80 dX10_paths_73 (by decide) (fun c73 => ?_) (fun c73 => ?_)
        · skip
          refine mx_iconstN 0 dX10_paths_80 (by decide) ?_
          refine mx_top (y := nI (hitC (vA (zX z)) qn pn 1)) (congrArg nI (show 0 = hitC (vA (zX z)) qn pn 1 from Eq.symm (if_neg (by first | exact fun q9 => c66 q9.1 | exact fun q9 => c73 (hem.mpr q9.2))))) ?_
          exact J81 () f1 f2 ha3 hS3 hg3
        · skip
          refine mx_iconstN 1 dX10_paths_76 (by decide) ?_
          refine mx_goto (tgt := 81) dX10_paths_77 (by decide) ?_
          refine mx_top (y := nI (hitC (vA (zX z)) qn pn 1)) (congrArg nI (show 1 = hitC (vA (zX z)) qn pn 1 from Eq.symm (if_pos ⟨by omega, hem.mp c73⟩))) ?_
          exact J81 () f1 f2 ha3 hS3 hg3
    · skip
      refine mx_iconstN 0 dX10_paths_50 (by decide) ?_
      exact mx_iret dX10_paths_51 rfl rfl (⟨⟨hr0, hrf, fun z9 => absurd z9 (by omega), fun _ => ⟨⟨_, rfl⟩, hW1⟩⟩, rfl⟩)
  refine mx_aload_n (i := 0) (hi := rfl) (hl := rfl) (hd := dX10_paths_0) ?_
  refine mx_aload_n (i := 0) (hi := rfl) (hl := rfl) (hd := dX10_paths_1) ?_
  refine mx_getR (ci := 10) (k := 5) (r := (m + 3)) dX10_paths_2 k_1018 (by decide) rfl (by assumption) (by assumption) (by omega) ?_
  refine mx_iload_n (i := 1) (hi := rfl) (hl := rfl) (hd := dX10_paths_5) ?_
  refine mx_callSp (As := [.ref (m + 3), .int p]) (rest := [.ref m]) dX10_paths_6 (mt_isPerson G I (m + 3) (zG z) t_now l_now hvp.1 p) km_X10_isPerson rfl k_1243 k_1244 rfl rfl (Nat.le_of_ble_eq_true rfl) (by decide) ?_
  refine mx_ifB_eq 23 dX10_paths_9 (by decide) (fun c9 => ?_) (fun c9 => ?_)
  · skip
    refine mx_iconstN 1 dX10_paths_23 (by decide) ?_
    refine mx_goto (tgt := 44) dX10_paths_24 (by decide) ?_
    refine mx_top (y := nI (fl_paths z p q n)) (congrArg nI (Eq.symm (by unfold fl_paths; rw [if_pos (by first | exact fun q9 => c9 q9.1 | exact fun q9 => c20 q9.2)]))) ?_
    exact J44 ()
  · skip
    refine mx_aload_n (i := 0) (hi := rfl) (hl := rfl) (hd := dX10_paths_12) ?_
    refine mx_getR (ci := 10) (k := 5) (r := (m + 3)) dX10_paths_13 k_1018 (by decide) rfl (by assumption) (by assumption) (by omega) ?_
    refine mx_iload_n (i := 2) (hi := rfl) (hl := rfl) (hd := dX10_paths_16) ?_
    refine mx_callSp (As := [.ref (m + 3), .int q]) (rest := [.ref m]) dX10_paths_17 (mt_isPerson G I (m + 3) (zG z) t_now l_now hvp.1 q) km_X10_isPerson rfl k_1243 k_1244 rfl rfl (Nat.le_of_ble_eq_true rfl) (by decide) ?_
    refine mx_ifB_ne 27 dX10_paths_20 (by decide) (fun c20 => ?_) (fun c20 => ?_)
    · skip
      refine mx_iload_n (i := 3) (hi := rfl) (hl := rfl) (hd := dX10_paths_27) ?_
      refine mx_i2l (hv := rfl) (hd := dX10_paths_28) ?_
      refine mx_lconst (v := 0) (by decide) dX10_paths_29 ?_
      refine mx_ldc2 (v := (4)) k_1346 dX10_paths_30 ?_
      refine mx_callSp (As := [.long n.toInt64, .long (0 : Int64), .long (4)]) (rest := [.ref m]) dX10_paths_33 (mt_in G I (n.toInt64) (0 : Int64) (4 : Int64)) km_X10_in rfl k_1119 k_1120 rfl rfl (Nat.le_of_ble_eq_true rfl) (by decide) ?_
      refine mx_top (y := mx_b (decide (0 ≤ n.toInt ∧ n.toInt ≤ 4))) (congrArg mx_b (decide_eq_decide.mpr ((in_l (x := 0) (y := 4) rfl rfl).trans (by omega)))) ?_
      refine mx_ifB_eq 43 dX10_paths_36 (by decide) (fun c36 => ?_) (fun c36 => ?_)
      · skip
        refine mx_iconstN 2 dX10_paths_43 (by decide) ?_
        refine mx_top (y := nI (fl_paths z p q n)) (congrArg nI (Eq.symm (by unfold fl_paths; rw [if_neg (fun q9 => q9 ⟨c9, c20⟩), if_pos c36]))) ?_
        exact J44 ()
      · skip
        refine mx_iconstN 0 dX10_paths_39 (by decide) ?_
        refine mx_goto (tgt := 44) dX10_paths_40 (by decide) ?_
        refine mx_top (y := nI (fl_paths z p q n)) (congrArg nI (Eq.symm (by unfold fl_paths; rw [if_neg (fun q9 => q9 ⟨c9, c20⟩), if_neg (fun q9 => q9 c36)]))) ?_
        exact J44 ()
    · skip
      refine mx_iconstN 1 dX10_paths_23 (by decide) ?_
      refine mx_goto (tgt := 44) dX10_paths_24 (by decide) ?_
      refine mx_top (y := nI (fl_paths z p q n)) (congrArg nI (Eq.symm (by unfold fl_paths; rw [if_pos (by first | exact fun q9 => c9 q9.1 | exact fun q9 => c20 q9.2)]))) ?_
      exact J44 ()
