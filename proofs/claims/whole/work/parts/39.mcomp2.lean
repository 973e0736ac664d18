/-! THE REFERENCE: compile -/
/-- what a compiled pattern leaves behind -/
def auN (I : mx_I) (m : Nat) (A : Pa) : Prop := I m 11 = nI (pL A) ∧ (∃ (la : Nat) (em : Bool), I m 14 = nI la ∧ I m 12 = mx_b em ∧ la < 2 ^ 21 ∧ la.testBit 0 = false ∧ pAc A = la ||| (if em = true then 1 else 0)) ∧ (∀ s, s ≤ pL A → I (m + 8) s = nI (pA A s)) ∧ ∃ sg, sgR A sg ∧ ∀ s, 1 ≤ s → s ≤ pL A → I (m + 9) s = nI (sg s)
/-- what compile may change -/
def cmF (I I1 : mx_I) (m : Nat) : Prop := (∀ b, (b < m ∨ (m < b ∧ b < m + 8) ∨ m + 16 ≤ b) → I1 b = I b) ∧ ∀ j, (j < 11 ∨ 15 ≤ j) → I1 m j = I m j
theorem cmF.rf (I : mx_I) (m : Nat) : cmF I I m := ⟨fun _ _ => rfl, fun _ _ => rfl⟩
theorem cmF.tr {I I1 I2 : mx_I} {m : Nat} (h : cmF I I1 m) (k : cmF I1 I2 m) : cmF I I2 m := ⟨fun b q => (k.1 b q).trans (h.1 b q), fun j q => (k.2 j q).trans (h.2 j q)⟩
theorem cmF.u {I I1 : mx_I} {m a j : Nat} {x : Int32} (h : cmF I I1 m) (q : (m + 8 ≤ a ∧ a < m + 16) ∨ (a = m ∧ 11 ≤ j ∧ j < 15)) : cmF I (mx_u I1 a j x) m := by
  refine ⟨fun b hb => ?_, fun k hk => ?_⟩
  · funext k
    rw [mx_u_at, if_neg (by omega), h.1 b hb]
  · rw [mx_u_at, if_neg (by omega), h.2 k hk]
theorem cmF.of {I I1 I2 : mx_I} {m : Nat} (h : cmF I I1 m) (e : ∀ b k, ¬ (m + 8 ≤ b ∧ b ≤ m + 15) → I2 b k = I1 b k) : cmF I I2 m := ⟨fun b hb => by funext k; rw [e b k (by omega), h.1 b hb], fun j hj => by rw [e m j (by omega), h.2 j hj]⟩
/-- the levels -/
def lvN (I : mx_I) (m op : Nat) (en br : Nat → Pc) : Prop := ∀ j, j ≤ op → pcM I (m + 10) j (en j) ∧ pcM I (m + 13) j (br j)
/-- on the way: the levels, the positions so far -/
def cmN (I : mx_I) (m : Nat) (x : Rs) (sg : Nat → Nat) : Prop := I m 11 = nI (pL x.2.2.2) ∧ lvN I m x.1 x.2.1 x.2.2.1 ∧ (∀ s, 1 ≤ s → s ≤ pL x.2.2.2 → I (m + 8) s = nI (pA x.2.2.2 s)) ∧ (∀ s, 1 ≤ s → s ≤ pL x.2.2.2 → I (m + 9) s = nI (sg s)) ∧ sgR x.2.2.2 sg ∧ rI0 x
theorem inB21 {L b : Nat} (h : inB L b) (hL : L ≤ 20) : b < 2 ^ 21 := Nat.lt_pow_two_of_testBit b (fun i hi => h.n (by omega))
/-- what comes behind the sign -/
def nxC (ch : Nat → Nat) (n i : Nat) : Nat := if i + 1 < n then ch (i + 1) else 124
def enV (ch : Nat → Nat) (n i : Nat) : Int32 := if i + 1 < n then nI (ch (i + 1)) else -9
theorem enV_iff {ch : Nat → Nat} {n i k : Nat} (hc : ∀ j, j < n → ch j < 256) (hk : k < 64) : enV ch n i = nI k ↔ nxC ch n i = k := by
  unfold enV nxC
  by_cases q : i + 1 < n
  · rw [if_pos q, if_pos q]
    exact nI_eq (by have := hc _ q; omega) (by omega)
  · rw [if_neg q, if_neg q]
    refine ⟨fun z => ?_, fun z => by omega⟩
    have h1 := nI_toInt (n := k) (by omega)
    rw [← z] at h1
    have h2 : (-9 : Int32).toInt = -9 := by decide
    omega
theorem nxC_at {ch : Nat → Nat} {n i : Nat} (h : peE (nxC ch n i)) : i + 1 < n ∧ ch (i + 1) = nxC ch n i := by
  unfold nxC at h ⊢
  by_cases q : i + 1 < n
  · rw [if_pos q]; exact ⟨q, rfl⟩
  · rw [if_neg q] at h; omega
theorem nxC_no {ch : Nat → Nat} {n i : Nat} (h : ¬ peE (nxC ch n i)) : i + 1 < n → ¬ peE (ch (i + 1)) := fun q => by
  unfold nxC at h
  rw [if_pos q] at h
  exact h
theorem rdK_s (ch : Nat → Nat) (n i : Nat) : rdK ch n (i + 1) = rdS (ch i) (nxC ch n i) (rdG (rdK ch n i)) := rfl
/-- an ending changes nothing -/
theorem rdS_e {c nx : Nat} {x : Rs} (h : peE c) : rdS c nx x = x := by
  unfold rdS
  rw [if_neg (fun q => by have := q.1; omega), if_neg (fun q => by have := q.1; omega), if_neg (fun q => by have := q.1; omega), if_neg (by omega)]
theorem rdK_e {ch : Nat → Nat} {n i : Nat} (h : peE (ch (i + 1))) : rdK ch n (i + 1 + 1) = rdG (rdK ch n (i + 1)) := by rw [rdK_s, rdS_e h]
theorem pcM.u {I : mx_I} {a j b k : Nat} {x : Pc} {v : Int32} (h : pcM I a j x) (q : b < a ∨ a + 2 < b ∨ k ≠ j) : pcM (mx_u I b k v) a j x := h.k (fun c h1 h2 => by rw [mx_u_at, if_neg (by omega)])
/-- ready for a part: the levels below and at dp, the positions, the part -/
def rdP (dp : Nat) (en br : Nat → Pc) (A1 : Pa) (part : Pc) (nx : Nat) : Rs := (dp, en, upF br dp (rdB part (br dp) nx), rdA A1 part (br dp) nx)
theorem peF_1 {ch : Nat → Nat} {n i L op bh : Nat} (hi : i < n) (h : peOk L op bh (ch i)) (h40 : i < 40) : peF ch n (n - i) i L op bh = peF ch n (n - (i + 1)) (i + 1) (L + if peA (ch i) then 1 else 0) (op + (if ch i = 40 then 1 else 0) - (if ch i = 41 then 1 else 0)) (if peA (ch i) ∨ ch i = 41 then 1 else 0) := by
  rw [show n - i = n - (i + 1) + 1 by omega, peF, if_pos ⟨h, h40⟩]
theorem peF_0 {ch : Nat → Nat} {n i L op bh : Nat} (hi : i < n) (h : ¬ (peOk L op bh (ch i) ∧ i < 40)) : peF ch n (n - i) i L op bh = some i := by
  rw [show n - i = n - (i + 1) + 1 by omega, peF, if_neg h]
abbrev gdP (L op c : Nat) : Prop := (((97 ≤ c ∧ c ≤ 100) ∨ (65 ≤ c ∧ c ≤ 68) ∨ c = 46) ∧ L < 20) ∨ (c = 40 ∧ op < 9) ∨ c = 124 ∨ (c = 41 ∧ 0 < op)
theorem not_ok {ch : Nat → Nat} {n i L op bh : Nat} (hin : i < n) (hbh : bh = 0 ∨ (i < min n 40 → ¬ peE (ch i))) (h : i = 40 ∨ ¬ gdP L op (ch i)) : ¬ (peOk L op bh (ch i) ∧ i < 40) := by
  rintro ⟨z, z2⟩
  rcases h with h | h
  · omega
  · rcases z with z | z | z | z | z
    · exact h (Or.inl z)
    · exact h (Or.inr (Or.inl z))
    · exact h (Or.inr (Or.inr (Or.inr z)))
    · exact h (Or.inr (Or.inr (Or.inl z)))
    · exact hbh.elim (fun q => z.2 q) (fun q => q (by omega) z.1)
section
variable {ch : Nat → Nat} {n i L op bh : Nat}
theorem pe_let (hin : i < n) (h40 : i < 40) (hp : peA (ch i)) (hL : L < 20) : peF ch n (n - i) i L op bh = peF ch n (n - (i + 1)) (i + 1) (L + 1) op 1 := by
  rw [peF_1 hin (Or.inl ⟨hp, hL⟩) h40, if_pos hp, if_neg (show ¬ ch i = 40 by omega), if_neg (show ¬ ch i = 41 by omega), if_pos (Or.inl hp)]
  rfl
theorem pe_lp (hin : i < n) (h40 : i < 40) (hc : ch i = 40) (ho : op < 9) : peF ch n (n - i) i L op bh = peF ch n (n - (i + 1)) (i + 1) L (op + 1) 0 := by
  rw [peF_1 hin (Or.inr (Or.inl ⟨hc, ho⟩)) h40, if_neg (show ¬ peA (ch i) by omega), if_pos hc, if_neg (show ¬ ch i = 41 by omega), if_neg (show ¬ (peA (ch i) ∨ ch i = 41) by omega)]
  rfl
theorem pe_bar (hin : i < n) (h40 : i < 40) (hc : ch i = 124) : peF ch n (n - i) i L op bh = peF ch n (n - (i + 1)) (i + 1) L op 0 := by
  rw [peF_1 hin (Or.inr (Or.inr (Or.inr (Or.inl hc)))) h40, if_neg (show ¬ peA (ch i) by omega), if_neg (show ¬ ch i = 40 by omega), if_neg (show ¬ ch i = 41 by omega), if_neg (show ¬ (peA (ch i) ∨ ch i = 41) by omega)]
  rfl
theorem pe_rp (hin : i < n) (h40 : i < 40) (hc : ch i = 41) (ho : 0 < op) : peF ch n (n - i) i L op bh = peF ch n (n - (i + 1)) (i + 1) L (op - 1) 1 := by
  rw [peF_1 hin (Or.inr (Or.inr (Or.inl ⟨hc, ho⟩))) h40, if_neg (show ¬ peA (ch i) by omega), if_neg (show ¬ ch i = 40 by omega), if_pos hc, if_pos (Or.inr hc)]
  rfl
theorem pe_end (hin : i < n) (h40 : i < 40) (hc : peE (ch i)) : peF ch n (n - i) i L op 1 = peF ch n (n - (i + 1)) (i + 1) L op 0 := by
  rw [peF_1 hin (Or.inr (Or.inr (Or.inr (Or.inr ⟨hc, by decide⟩)))) h40, if_neg (show ¬ peA (ch i) by omega), if_neg (show ¬ ch i = 40 by omega), if_neg (show ¬ ch i = 41 by omega), if_neg (show ¬ (peA (ch i) ∨ ch i = 41) by omega)]
  rfl
end
section
variable {I I2 I3 : mx_I} {m op c nx : Nat} {en br : Nat → Pc} {A : Pa} {sg : Nat → Nat}
theorem rd_let (hp : peA c) (hL : pL A < 20) : rdS c nx (rdG (op, en, br, A)) = rdP op en br (pPlace (pGrow A) c) (2 ^ (pL A + 1), 2 ^ (pL A + 1), false) nx := by
  unfold rdS
  rw [if_pos ⟨hp, hL⟩]
  rfl
theorem rd_lp (hc : c = 40) (ho : op < 9) : rdS c nx (rdG (op, en, br, A)) = (op + 1, upF en (op + 1) (0, 0, false), upF br (op + 1) (0, 0, true), pGrow A) := by
  unfold rdS
  rw [if_neg (fun q => by have := q.1; omega), if_pos ⟨hc, ho⟩]
  rfl
theorem rd_rp (hc : c = 41) (ho : 0 < op) : rdS c nx (rdG (op, en, br, A)) = rdP (op - 1) en br (pGrow A) (rdO (en op) (br op)) nx := by
  unfold rdS
  rw [if_neg (fun q => by have := q.1; omega), if_neg (fun q => by have := q.1; omega), if_pos ⟨hc, ho⟩]
  rfl
theorem rd_bar (hc : c = 124) : rdS c nx (rdG (op, en, br, A)) = (op, upF en op (rdO (en op) (br op)), upF br op (0, 0, true), pGrow A) := by
  unfold rdS
  rw [if_neg (fun q => by have := q.1; omega), if_neg (fun q => by have := q.1; omega), if_neg (fun q => by have := q.1; omega), if_pos hc]
  rfl
theorem lvN.k (h : lvN I m op en br) (e : ∀ b k, m + 10 ≤ b → b ≤ m + 15 → k ≤ op → I2 b k = I b k) : lvN I2 m op en br := fun j hj => ⟨(h j hj).1.k (fun b h1 h2 => e b j (by omega) (by omega) hj), (h j hj).2.k (fun b h1 h2 => e b j (by omega) (by omega) hj)⟩
theorem cm_letter (h : cmN I m (op, en, br, A) sg) (hL : pL A < 20) (hc : peA c) : cmN (mx_u (mx_u (mx_u I m 11 (nI (pL A + 1))) (m + 9) (pL A + 1) (sgK c)) (m + 8) (pL A + 1) (nI 0)) m (op, en, br, pPlace (pGrow A) c) (upF sg (pL A + 1) (sgO c)) := by
  obtain ⟨h1, h2, h3, h4, h5, h6, h7, h8, h9, h10⟩ := h
  have h10' : aI0 (pGrow A) := h10
  refine ⟨?_, ?_, fun s a b => ?_, fun s a b => ?_, ?_, ?_, h7, fun i => (h8 i).up (Nat.le_succ _), fun i => (h9 i).up (Nat.le_succ _), h10'.place c⟩
  · rw [mx_u_at, if_neg (by omega), mx_u_at, if_neg (by omega), mx_u_at, if_pos ⟨rfl, rfl⟩]; rfl
  · exact h2.k (fun b k q1 q2 _ => by rw [mx_u_at, if_neg (by omega), mx_u_at, if_neg (by omega), mx_u_at, if_neg (by omega)])
  · have b : s ≤ pL A + 1 := b
    show _ = nI (pA A s)
    rw [mx_u_at]
    by_cases e : s = pL A + 1
    · rw [if_pos ⟨rfl, e⟩, show pA A s = 0 from h10.2.1 s (Or.inr (by show pL A < s; omega))]
    · rw [if_neg (fun q => e q.2), mx_u_at, if_neg (by omega), mx_u_at, if_neg (by omega)]; exact h3 s a (by show s ≤ pL A; omega)
  · have b : s ≤ pL A + 1 := b
    rw [mx_u_at, if_neg (by omega), mx_u_at]
    by_cases e : s = pL A + 1
    · rw [if_pos ⟨rfl, e⟩, e, upF_s]; exact sgK_n hc
    · rw [if_neg (fun q => e q.2), upF_n e, mx_u_at, if_neg (by omega)]; exact h4 s a (by show s ≤ pL A; omega)
  · exact sgR.place (A := pGrow A) h5 h10.2.2.2.1 hc
  · show pL A + 1 ≤ 20; omega
theorem cm_lp (h : cmN I m (op, en, br, A) sg) (ho : op < 9) (q1 : pcM I2 (m + 10) (op + 1) (0, 0, false)) (q2 : pcM I2 (m + 13) (op + 1) (0, 0, true)) (q3 : ∀ b k, ¬ (m + 10 ≤ b ∧ b ≤ m + 15 ∧ k = op + 1) → I2 b k = I b k) : cmN I2 m (op + 1, upF en (op + 1) (0, 0, false), upF br (op + 1) (0, 0, true), pGrow A) sg := by
  obtain ⟨h1, h2, h3, h4, h5, h6, h7, h8, h9, h10⟩ := h
  refine ⟨(q3 _ _ (by omega)).trans h1, fun j hj => ?_, fun s a b => (q3 _ _ (by omega)).trans (h3 s a b), fun s a b => (q3 _ _ (by omega)).trans (h4 s a b), h5, h6, by show op + 1 ≤ 9; omega, pcB.uf h8 (pcB.z _ _), pcB.uf h9 (pcB.z _ _), h10⟩
  show pcM I2 (m + 10) j (upF en (op + 1) (0, 0, false) j) ∧ pcM I2 (m + 13) j (upF br (op + 1) (0, 0, true) j)
  have hj : j ≤ op + 1 := hj
  by_cases e : j = op + 1
  · subst e; rw [upF_s, upF_s]; exact ⟨q1, q2⟩
  · rw [upF_n e, upF_n e]
    obtain ⟨a, b⟩ := h2 j (by show j ≤ op; omega)
    exact ⟨a.k (fun b h1 h2 => q3 _ _ (by omega)), b.k (fun b h1 h2 => q3 _ _ (by omega))⟩
theorem cm_bar (h : cmN I m (op, en, br, A) sg) (q1 : pcM I2 (m + 10) op (rdO (en op) (br op))) (q2 : ∀ b k, ¬ (m + 10 ≤ b ∧ b ≤ m + 12 ∧ k = op) → I2 b k = I b k) (q3 : pcM I3 (m + 13) op (0, 0, true)) (q4 : ∀ b k, ¬ (m + 13 ≤ b ∧ b ≤ m + 15 ∧ k = op) → I3 b k = I2 b k) : cmN I3 m (op, upF en op (rdO (en op) (br op)), upF br op (0, 0, true), pGrow A) sg := by
  obtain ⟨h1, h2, h3, h4, h5, h6, h7, h8, h9, h10⟩ := h
  have e : ∀ b k, ¬ (m + 10 ≤ b ∧ b ≤ m + 15 ∧ k = op) → I3 b k = I b k := fun b k z => (q4 b k (by omega)).trans (q2 b k (by omega))
  refine ⟨(e _ _ (by omega)).trans h1, fun j hj => ?_, fun s a b => (e _ _ (by omega)).trans (h3 s a b), fun s a b => (e _ _ (by omega)).trans (h4 s a b), h5, h6, h7, pcB.uf h8 ((h8 op).O (h9 op)), pcB.uf h9 (pcB.z _ _), h10⟩
  show pcM I3 (m + 10) j (upF en op (rdO (en op) (br op)) j) ∧ pcM I3 (m + 13) j (upF br op (0, 0, true) j)
  have hj : j ≤ op := hj
  by_cases z : j = op
  · subst z; rw [upF_s, upF_s]; exact ⟨q1.k (fun b a1 a2 => q4 _ _ (by omega)), q3⟩
  · rw [upF_n z, upF_n z]
    obtain ⟨a, b⟩ := h2 j hj
    exact ⟨a.k (fun b h1 h2 => e _ _ (by omega)), b.k (fun b h1 h2 => e _ _ (by omega))⟩
theorem cm_rp (h : cmN I m (op, en, br, A) sg) (ho : 0 < op) (q2 : ∀ b k, ¬ (m + 10 ≤ b ∧ b ≤ m + 12 ∧ k = op) → I2 b k = I b k) : cmN I2 m (op - 1, en, br, pGrow A) sg := by
  obtain ⟨h1, h2, h3, h4, h5, h6, h7, h8, h9, h10⟩ := h
  have h7 : op ≤ 9 := h7
  refine ⟨(q2 _ _ (by omega)).trans h1, fun j hj => ?_, fun s a b => (q2 _ _ (by omega)).trans (h3 s a b), fun s a b => (q2 _ _ (by omega)).trans (h4 s a b), h5, h6, by show op - 1 ≤ 9; omega, h8, h9, h10⟩
  have hj : j ≤ op - 1 := hj
  obtain ⟨a, b⟩ := h2 j (by show j ≤ op; omega)
  exact ⟨a.k (fun b h1 h2 => q2 _ _ (by omega)), b.k (fun b h1 h2 => q2 _ _ (by omega))⟩
/-- behind the ending's own loop -/
def cm3 (I : mx_I) (m dp : Nat) (en br : Nat → Pc) (A1 : Pa) (part : Pc) (nx : Nat) (sg : Nat → Nat) : Prop := I m 11 = nI (pL A1) ∧ lvN I m dp en br ∧ (∀ s, 1 ≤ s → s ≤ pL A1 → I (m + 8) s = nI (pA (if nx = 42 ∨ nx = 43 then pAllow A1 part.2.1 part.1 else A1) s)) ∧ (∀ s, 1 ≤ s → s ≤ pL A1 → I (m + 9) s = nI (sg s)) ∧ sgR A1 sg
theorem cm3_0 {dp : Nat} {A1 : Pa} {part : Pc} (h : cmN I m (dp, en, br, A1) sg) (c : ¬ (nx = 42 ∨ nx = 43)) : cm3 I m dp en br A1 part nx sg := by
  obtain ⟨h1, h2, h3, h4, h5, h6⟩ := h
  exact ⟨h1, h2, fun s a b => by rw [if_neg c]; exact h3 s a b, h4, h5⟩
theorem cm3_1 {dp : Nat} {A1 : Pa} {part : Pc} (h : cmN I m (dp, en, br, A1) sg) (c : nx = 42 ∨ nx = 43) (n1 : ∀ s, 1 ≤ s → s ≤ pL A1 → I2 (m + 8) s = nI (if part.2.1.testBit s = true then pA A1 s ||| part.1 else pA A1 s)) (n2 : ∀ b k, b ≠ m + 8 → I2 b k = I b k) : cm3 I2 m dp en br A1 part nx sg := by
  obtain ⟨h1, h2, h3, h4, h5, h6⟩ := h
  exact ⟨(n2 _ _ (by omega)).trans h1, h2.k (fun b k q1 q2 _ => n2 _ _ (by omega)), fun s a b => by rw [if_pos c]; exact n1 s a b, fun s a b => (n2 _ _ (by omega)).trans (h4 s a b), h5⟩
theorem cm_add {dp : Nat} {A1 : Pa} {part : Pc} (h : cm3 I m dp en br A1 part nx sg) (k1 : ∀ s, 1 ≤ s → s ≤ pL A1 → I2 (m + 8) s = nI (if (br dp).2.1.testBit s = true then pA (if nx = 42 ∨ nx = 43 then pAllow A1 part.2.1 part.1 else A1) s ||| part.1 else pA (if nx = 42 ∨ nx = 43 then pAllow A1 part.2.1 part.1 else A1) s)) (k2 : pcM I2 (m + 13) dp (rdB part (br dp) nx)) (k3 : ∀ b k, b ≠ m + 8 → ¬ (m + 13 ≤ b ∧ b ≤ m + 15 ∧ k = dp) → I2 b k = I b k) (hr : rI0 (rdP dp en br A1 part nx)) : cmN I2 m (rdP dp en br A1 part nx) sg := by
  obtain ⟨h1, h2, h3, h4, h5⟩ := h
  have eL : pL (rdA A1 part (br dp) nx) = pL A1 := by
    unfold rdA
    split <;> rfl
  have eE : pE (rdA A1 part (br dp) nx) = pE A1 := by
    unfold rdA
    split <;> rfl
  refine ⟨?_, fun j hj => ?_, fun s a b => ?_, fun s a b => ?_, h5.c eL eE, hr⟩
  · show I2 m 11 = nI (pL (rdA A1 part (br dp) nx))
    rw [eL, k3 _ _ (by omega) (by omega)]; exact h1
  · show pcM I2 (m + 10) j (en j) ∧ pcM I2 (m + 13) j (upF br dp (rdB part (br dp) nx) j)
    obtain ⟨a, b⟩ := h2 j hj
    refine ⟨a.k (fun b q1 q2 => k3 _ _ (by omega) (by omega)), ?_⟩
    by_cases e : j = dp
    · subst e; rw [upF_s]; exact k2
    · rw [upF_n e]; exact b.k (fun b q1 q2 => k3 _ _ (by omega) (by omega))
  · have b : s ≤ pL (rdA A1 part (br dp) nx) := b
    rw [eL] at b
    rw [k1 s a b]
    rfl
  · have b : s ≤ pL (rdA A1 part (br dp) nx) := b
    rw [eL] at b
    rw [k3 _ _ (by omega) (by omega)]; exact h4 s a b
theorem nI_dec {a : Nat} (h : 1 ≤ a) : nI a + Int32.ofInt (-1) = nI (a - 1) := by
  have : nI a - nI 1 = nI (a - 1) := nI_sub h
  rw [← this]
  rw [Int32.sub_eq_add_neg]
  rfl
end

theorem au_end {I1 I5 : mx_I} {m i n : Nat} {ch : Nat → Nat} {en br : Nat → Pc} {A : Pa} {sg : Nat → Nat} (hin : i = n) (hi : i ≤ min n 40) (hxe : rdK ch (min n 40) i = (0, en, br, A)) (hcm : cmN I1 m (0, en, br, A) sg) (q1 : pcM I5 (m + 10) 0 (rdO (en 0) (br 0))) (q2 : ∀ b k, ¬ (m + 10 ≤ b ∧ b ≤ m + 12 ∧ k = 0) → I5 b k = I1 b k) :
    auN (mx_u (mx_u (mx_u (mx_u I5 m 12 (mx_b (decide ((rdO (en 0) (br 0)).2.2 = true)))) m 13 (nI (rdO (en 0) (br 0)).1)) m 14 (nI (rdO (en 0) (br 0)).2.1)) (m + 8) 0 (nI (rdO (en 0) (br 0)).1)) m (rdF ch n) := by
  have hn : min n 40 = n := by omega
  have hX : rdX ch n = (0, en, br, A) := by
    unfold rdX
    rw [hn]
    rw [hn, hin] at hxe
    exact hxe
  have hW : rdW ch n = rdO (en 0) (br 0) := by
    unfold rdW
    rw [hX]
  obtain ⟨h1, h2, h3, h4, h5, h6⟩ := hcm
  have hL : pL (rdF ch n) = pL A := by rw [rdF_L, hX]
  have hB := rdW_B ch n
  rw [hW, hX] at hB
  refine ⟨?_, ⟨(rdO (en 0) (br 0)).2.1, (rdO (en 0) (br 0)).2.2, ?_, ?_, inB21 hB.2 h6.1, hB.2.n (Or.inl rfl), ?_⟩, fun s hs => ?_, sg, h5.c hL (by rw [rdF_E, hX]), fun s a b => ?_⟩
  · rw [hL, mx_u_at, if_neg (by omega), mx_u_at, if_neg (by omega), mx_u_at, if_neg (by omega), mx_u_at, if_neg (by omega), q2 _ _ (by omega)]; exact h1
  · rw [mx_u_at, if_neg (by omega), mx_u_at, if_pos ⟨rfl, rfl⟩]
  · rw [mx_u_at, if_neg (by omega), mx_u_at, if_neg (by omega), mx_u_at, if_neg (by omega), mx_u_at, if_pos ⟨rfl, rfl⟩, mx_dec]
  · rw [rdF_Ac, hW]
  · rw [hL] at hs
    by_cases e : s = 0
    · subst e
      rw [mx_u_at, if_pos ⟨rfl, rfl⟩, rdF_A0, hW]
    · rw [mx_u_at, if_neg (by omega), mx_u_at, if_neg (by omega), mx_u_at, if_neg (by omega), mx_u_at, if_neg (by omega), q2 _ _ (by omega), rdF_As ch n s (by omega), hX]
      exact h3 s (by omega) hs
  · rw [hL] at b
    rw [mx_u_at, if_neg (by omega), mx_u_at, if_neg (by omega), mx_u_at, if_neg (by omega), mx_u_at, if_neg (by omega), q2 _ _ (by omega)]
    exact h4 s a b

set_option maxHeartbeats 2000000 in
set_option maxRecDepth 100000 in
theorem mt_compile (G : mx_G) (I : mx_I) (m : Nat) (hs : oMD G m) (r f n : Nat) (ch : Nat → Nat) (hr : r = m + 1 ∨ r = m + 3 ∨ r = m + 4) (htr : mx_tg G r = 1) (hlr : f + n ≤ mx_ln G r) (hlb : mx_ln G r < 60000) (hrow : ∀ i, i < n → I r (f + i) = nI (ch i)) (hch8 : ∀ i, i < n → ch i < 256) : mx_CTi yX10_compile mX10_compile 3 [.ref m, .ref r, .int (nI f), .int (nI n)] G I (fun rv I1 => rv = some (.int (oI (pErr ch n))) ∧ (pErr ch n = none → auN I1 m (rdF ch n)) ∧ cmF I I1 m) := by
  refine mx_start (k := 11) (by decide) rfl rfl (fun h => nomatch h) (Nat.le_of_ble_eq_true rfl) ?_
  show mx_V mX10_compile mx_S0 3 0 0 0 [some (.ref m), some (.ref r), some (.int (nI f)), some (.int (nI n)), none, none, none, none, none, none, none, none, none, none, none] [] G I (fun rv Gz Iz => (fun rv I1 => rv = some (.int (oI (pErr ch n))) ∧ (pErr ch n = none → auN I1 m (rdF ch n)) ∧ cmF I I1 m) rv Iz ∧ Gz = G) (fun _ _ _ => False)
  have hs0 := hs
  have hch8m : ∀ j, j < (min n 40) → ch j < 256 := fun j hj => hch8 j (by omega)
  obtain ⟨tgm, -, -, -, -, -, -, -, ⟨r_next, t_next, l_next⟩, ⟨r_sign, t_sign, l_sign⟩, ⟨r_orEmpty, t_orEmpty, l_orEmpty⟩, ⟨r_orFirst, t_orFirst, l_orFirst⟩, ⟨r_orLast, t_orLast, l_orLast⟩, -⟩ := hs
  have L16 : ∀ (fq : Nat) (i op bh : Nat) (sg : Nat → Nat) (en br : Nat → Pc) (A : Pa) (I1 : mx_I), (min n 40) + 1 - i < fq → (i ≤ (min n 40)) → (rdK ch (min n 40) i = (op, en, br, A)) → (cmN I1 m (op, en, br, A) sg) → (pErr ch n = peF ch n (n - i) i (pL A) op bh) → (bh = 0 ∨ (i < (min n 40) → ¬ peE (ch i))) → (cmF I I1 m) → mx_V mX10_compile mx_S0 3 0 0 16 [some (.ref m), some (.ref r), some (.int (nI f)), some (.int (nI n)), some (.int (nI op)), some (.int (nI i)), none, none, none, none, none, none, none, none, none] [] G I1 (fun rv Gz Iz => (fun rv I1 => rv = some (.int (oI (pErr ch n))) ∧ (pErr ch n = none → auN I1 m (rdF ch n)) ∧ cmF I I1 m) rv Iz ∧ Gz = G) (fun _ _ _ => False) := by
    intro fq
    induction fq with
    | zero => intro i op bh sg en br A I1 hfu; exact absurd hfu (Nat.not_lt_zero _)
    | succ fq ih =>
      intro i op bh sg en br A I1 hfu hi hxe hcm hx hbh hfr
      refine mx_iload (i := 5) (hl := rfl) (hd := dX10_compile_16) ?_
      refine mx_iload_n (i := 3) (hi := rfl) (hl := rfl) (hd := dX10_compile_18) ?_
      refine mx_cmpN_ge 403 dX10_compile_19 (by decide) (by omega) (by omega) (fun c19 => ?_) (fun c19 => ?_)
      · skip
        have hin9 : i = n := by omega
        have hop : op ≤ 9 := hcm.2.2.2.2.2.2.1
        refine mx_iload (i := 4) (hl := rfl) (hd := dX10_compile_403) ?_
        refine mx_ifN_le 410 dX10_compile_405 (by decide) (by omega) (fun c405 => ?_) (fun c405 => ?_)
        · skip
          have hop0 : op = 0 := by omega
          subst hop0
          refine mx_aload_n (i := 0) (hi := rfl) (hl := rfl) (hd := dX10_compile_410) ?_
          refine mx_iconstN 0 dX10_compile_411 (by decide) ?_
          refine mx_callVi (ci := 10) (As := [.int (nI 0)]) (rest := []) dX10_compile_412 (mt_endBranch G I1 m hs0 0 (by omega) (en 0) (br 0) (hcm.2.1 0 (Nat.le_refl _)).1 (hcm.2.1 0 (Nat.le_refl _)).2) km_X10_endBranch rfl k_1153 k_1155 k_33 (by assumption) rfl rfl (Nat.le_of_ble_eq_true rfl) (by decide) (fun r1 I5 h2 => ?_)
          obtain ⟨e9, q1, q2⟩ := h2
          subst e9
          refine mx_aload_n (i := 0) (hi := rfl) (hl := rfl) (hd := dX10_compile_415) ?_
          refine mx_aload_n (i := 0) (hi := rfl) (hl := rfl) (hd := dX10_compile_416) ?_
          refine mx_getR (ci := 10) (k := 17) (r := (m + 10)) dX10_compile_417 k_1030 (by decide) rfl (by assumption) (by assumption) (by omega) ?_
          refine mx_iconstN 0 dX10_compile_420 (by decide) ?_
          refine mx_zaldV 0 (mx_b (decide ((rdO (en 0) (br 0)).2.2 = true)) : Int32) dX10_compile_421 (by assumption) ⟨rfl, by omega, by omega⟩ (by rw [mx_dec]; exact q1.1) ?_
          refine mx_putI (ci := 10) (k := 12) dX10_compile_422 k_1025 (by decide) rfl rfl (mx_b_nz _) (mx_b_fit _) (by assumption) ?_
          refine mx_aload_n (i := 0) (hi := rfl) (hl := rfl) (hd := dX10_compile_425) ?_
          refine mx_aload_n (i := 0) (hi := rfl) (hl := rfl) (hd := dX10_compile_426) ?_
          refine mx_getR (ci := 10) (k := 18) (r := (m + 11)) dX10_compile_427 k_1031 (by decide) rfl (by assumption) (by assumption) (by omega) ?_
          refine mx_iconstN 0 dX10_compile_430 (by decide) ?_
          refine mx_ialdV 0 (nI ((rdO (en 0) (br 0)).1)) dX10_compile_431 (by assumption) ⟨rfl, by omega, by omega⟩ (by rw [mx_u_at, if_neg (by omega)]; exact q1.2.1) ?_
          refine mx_putI (ci := 10) (k := 13) dX10_compile_432 k_1026 (by decide) rfl rfl rfl rfl (by assumption) ?_
          refine mx_aload_n (i := 0) (hi := rfl) (hl := rfl) (hd := dX10_compile_435) ?_
          refine mx_aload_n (i := 0) (hi := rfl) (hl := rfl) (hd := dX10_compile_436) ?_
          refine mx_getR (ci := 10) (k := 19) (r := (m + 12)) dX10_compile_437 k_1032 (by decide) rfl (by assumption) (by assumption) (by omega) ?_
          refine mx_iconstN 0 dX10_compile_440 (by decide) ?_
          refine mx_ialdV 0 (nI ((rdO (en 0) (br 0)).2.1)) dX10_compile_441 (by assumption) ⟨rfl, by omega, by omega⟩ (by rw [mx_u_at, if_neg (by omega), mx_u_at, if_neg (by omega)]; exact q1.2.2) ?_
          refine mx_putI (ci := 10) (k := 14) dX10_compile_442 k_1027 (by decide) rfl rfl rfl rfl (by assumption) ?_
          refine mx_aload_n (i := 0) (hi := rfl) (hl := rfl) (hd := dX10_compile_445) ?_
          refine mx_getR (ci := 10) (k := 15) (r := (m + 8)) dX10_compile_446 k_1028 (by decide) rfl (by assumption) (by assumption) (by omega) ?_
          refine mx_iconstN 0 dX10_compile_449 (by decide) ?_
          refine mx_aload_n (i := 0) (hi := rfl) (hl := rfl) (hd := dX10_compile_450) ?_
          refine mx_getV (ci := 10) (k := 13) (nI ((rdO (en 0) (br 0)).1)) dX10_compile_451 k_1026 (by decide) rfl (by assumption) (by rw [mx_u_at, if_neg (by omega), mx_u_at, if_pos ⟨rfl, rfl⟩]) ?_
          refine mx_iast 0 dX10_compile_454 (by assumption) ⟨rfl, by omega, by omega⟩ ?_
          refine mx_bipush (v := (-9)) (by decide) dX10_compile_455 ?_
          refine mx_iret dX10_compile_457 rfl rfl (⟨⟨by rw [hx, hin9, Nat.sub_self, peF, if_neg (by omega)]; rfl, fun _ => ?_, ?_⟩, rfl⟩)
          · exact au_end hin9 hi hxe hcm q1 q2
          · exact ((((hfr.of (fun b k hb => q2 b k (by omega))).u (by omega)).u (by omega)).u (by omega)).u (by omega)
        · skip
          refine mx_iload_n (i := 3) (hi := rfl) (hl := rfl) (hd := dX10_compile_408) ?_
          exact mx_iret dX10_compile_409 rfl rfl (⟨⟨by rw [hx, hin9, Nat.sub_self, peF, if_pos (by omega)]; rfl, fun z => (by rw [hx, hin9, Nat.sub_self, peF, if_pos (by omega)] at z; cases z), hfr⟩, rfl⟩)
      · skip
        have hc8 := hch8 i (by omega)
        have hL20 : pL A ≤ 20 := hcm.2.2.2.2.2.1
        have hop : op ≤ 9 := hcm.2.2.2.2.2.2.1
        have J56 : ∀ (_ : Unit), mx_V mX10_compile mx_S0 3 0 0 56 [some (.ref m), some (.ref r), some (.int (nI f)), some (.int (nI n)), some (.int (nI op)), some (.int (nI i)), some (.int (nI (ch i))), some (.int (sgK (ch i))), none, none, none, none, none, none, none] [.int (mx_b (decide (((97 ≤ ch i ∧ ch i ≤ 100) ∨ (65 ≤ ch i ∧ ch i ≤ 68) ∨ ch i = 46) ∨ ch i = 41)))] G I1 (fun rv Gz Iz => (fun rv I1 => rv = some (.int (oI (pErr ch n))) ∧ (pErr ch n = none → auN I1 m (rdF ch n)) ∧ cmF I I1 m) rv Iz ∧ Gz = G) (fun _ _ _ => False) := by
          intro _ 
          have J112 : ∀ (_ : Unit), mx_V mX10_compile mx_S0 3 0 0 112 [some (.ref m), some (.ref r), some (.int (nI f)), some (.int (nI n)), some (.int (nI op)), some (.int (nI i)), some (.int (nI (ch i))), some (.int (sgK (ch i))), some (.int (mx_b (decide (((97 ≤ ch i ∧ ch i ≤ 100) ∨ (65 ≤ ch i ∧ ch i ≤ 68) ∨ ch i = 46) ∨ ch i = 41)))), none, none, none, none, none, none] [.int (mx_b (decide (gdP (pL A) op (ch i))))] G I1 (fun rv Gz Iz => (fun rv I1 => rv = some (.int (oI (pErr ch n))) ∧ (pErr ch n = none → auN I1 m (rdF ch n)) ∧ cmF I I1 m) rv Iz ∧ Gz = G) (fun _ _ _ => False) := by
            intro _ 
            refine mx_istoreE (i := 9) (ls' := [some (.ref m), some (.ref r), some (.int (nI f)), some (.int (nI n)), some (.int (nI op)), some (.int (nI i)), some (.int (nI (ch i))), some (.int (sgK (ch i))), some (.int (mx_b (decide (((97 ≤ ch i ∧ ch i ≤ 100) ∨ (65 ≤ ch i ∧ ch i ≤ 68) ∨ ch i = 46) ∨ ch i = 41)))), some (.int (mx_b (decide (gdP (pL A) op (ch i))))), none, none, none, none, none]) (hd := dX10_compile_112) (hn := by decide) (hok := rfl) (hls := rfl) ?_
            refine mx_iload (i := 5) (hl := rfl) (hd := dX10_compile_114) ?_
            refine mx_bipushN 40 dX10_compile_116 (by decide) ?_
            refine mx_cmpN_eq 126 dX10_compile_118 (by decide) (by omega) (by omega) (fun c118 => ?_) (fun c118 => ?_)
            · skip
              refine mx_iload (i := 5) (hl := rfl) (hd := dX10_compile_126) ?_
              exact mx_iret dX10_compile_128 rfl rfl (⟨⟨by rw [hx, peF_0 (by omega) (not_ok (by omega) hbh (by first | exact Or.inl c118 | exact Or.inr c123))]; rfl, fun z => (by rw [hx, peF_0 (by omega) (not_ok (by omega) hbh (by first | exact Or.inl c118 | exact Or.inr c123))] at z; cases z), hfr⟩, rfl⟩)
            · skip
              refine mx_iload (i := 9) (hl := rfl) (hd := dX10_compile_121) ?_
              refine mx_ifB_ne 129 dX10_compile_123 (by decide) (fun c123 => ?_) (fun c123 => ?_)
              · skip
                have hi40 : i < 40 := by omega
                have K272 : ∀ (op2 : Nat) (en2 br2 : Nat → Pc) (I2 : mx_I), (¬ (((97 ≤ ch i ∧ ch i ≤ 100) ∨ (65 ≤ ch i ∧ ch i ≤ 68) ∨ ch i = 46) ∨ ch i = 41)) → (rdK ch (min n 40) (i + 1) = (op2, en2, br2, pGrow A)) → (cmN I2 m (op2, en2, br2, pGrow A) sg) → (pErr ch n = peF ch n (n - (i + 1)) (i + 1) (pL A) op2 0) → (cmF I I2 m) → mx_V mX10_compile mx_S0 3 0 0 272 [some (.ref m), some (.ref r), some (.int (nI f)), some (.int (nI n)), some (.int (nI op2)), some (.int (nI i)), some (.int (nI (ch i))), some (.int (sgK (ch i))), some (.int (mx_b (decide (((97 ≤ ch i ∧ ch i ≤ 100) ∨ (65 ≤ ch i ∧ ch i ≤ 68) ∨ ch i = 46) ∨ ch i = 41)))), none, some (.int (nI 0)), some (.int (nI 0)), some (.int (nI 0)), none, none] [] G I2 (fun rv Gz Iz => (fun rv I1 => rv = some (.int (oI (pErr ch n))) ∧ (pErr ch n = none → auN I1 m (rdF ch n)) ∧ cmF I I1 m) rv Iz ∧ Gz = G) (fun _ _ _ => False) := by
                  intro op2 en2 br2 I2 hne hrdy hcy hpe hf2
                  refine mx_iincE (i := 5) (ls' := [some (.ref m), some (.ref r), some (.int (nI f)), some (.int (nI n)), some (.int (nI op2)), some (.int (nI (i + 1))), some (.int (nI (ch i))), some (.int (sgK (ch i))), some (.int (mx_b (decide (((97 ≤ ch i ∧ ch i ≤ 100) ∨ (65 ≤ ch i ∧ ch i ≤ 68) ∨ ch i = 46) ∨ ch i = 41)))), none, some (.int (nI 0)), some (.int (nI 0)), some (.int (nI 0)), none, none]) 1 dX10_compile_272 rfl (by decide) (by decide) rfl rfl ?_
                  refine mx_iload (i := 8) (hl := rfl) (hd := dX10_compile_275) ?_
                  refine mx_ifB_eq 400 dX10_compile_277 (by decide) (fun c277 => ?_) (fun c277 => ?_)
                  · skip
                    refine mx_goto (tgt := 16) dX10_compile_400 (by decide) ?_
                    refine mx_leS (ls' := [some (.ref m), some (.ref r), some (.int (nI f)), some (.int (nI n)), some (.int (nI op2)), some (.int (nI (i + 1))), none, none, none, none, none, none, none, none, none]) ⟨rfl, rfl, rfl, rfl, rfl, rfl, trivial⟩ ?_
                    exact ih (i + 1) op2 0 sg en2 br2 (pGrow A) _ (by omega) (by omega) hrdy hcy hpe (Or.inl rfl) hf2
                  · skip
                    exact absurd c277 hne
                have J272 : ∀ (dp : Nat) (A1 : Pa) (part : Pc) (sg2 : Nat → Nat) (I2 : mx_I), (dp ≤ 9) → (((97 ≤ ch i ∧ ch i ≤ 100) ∨ (65 ≤ ch i ∧ ch i ≤ 68) ∨ ch i = 46) ∨ ch i = 41) → (rdK ch (min n 40) (i + 1) = rdP dp en br A1 part (nxC ch (min n 40) i)) → (cmN I2 m (dp, en, br, A1) sg2) → (part.2.1 < 2 ^ 21) → (pErr ch n = peF ch n (n - (i + 1)) (i + 1) (pL A1) dp 1) → (cmF I I2 m) → mx_V mX10_compile mx_S0 3 0 0 272 [some (.ref m), some (.ref r), some (.int (nI f)), some (.int (nI n)), some (.int (nI dp)), some (.int (nI i)), some (.int (nI (ch i))), some (.int (sgK (ch i))), some (.int (mx_b (decide (((97 ≤ ch i ∧ ch i ≤ 100) ∨ (65 ≤ ch i ∧ ch i ≤ 68) ∨ ch i = 46) ∨ ch i = 41)))), none, some (.int (mx_b (decide (part.2.2 = true)))), some (.int (nI part.1)), some (.int (nI part.2.1)), none, none] [] G I2 (fun rv Gz Iz => (fun rv I1 => rv = some (.int (oI (pErr ch n))) ∧ (pErr ch n = none → auN I1 m (rdF ch n)) ∧ cmF I I1 m) rv Iz ∧ Gz = G) (fun _ _ _ => False) := by
                  intro dp A1 part sg2 I2 hyd hen hrdy hcy hpw hpe hf2
                  have J304 : ∀ (_ : Unit), mx_V mX10_compile mx_S0 3 0 0 304 [some (.ref m), some (.ref r), some (.int (nI f)), some (.int (nI n)), some (.int (nI dp)), some (.int (nI (i + 1))), some (.int (nI (ch i))), some (.int (sgK (ch i))), some (.int (mx_b (decide (((97 ≤ ch i ∧ ch i ≤ 100) ∨ (65 ≤ ch i ∧ ch i ≤ 68) ∨ ch i = 46) ∨ ch i = 41)))), none, some (.int (mx_b (decide (part.2.2 = true)))), some (.int (nI part.1)), some (.int (nI part.2.1)), none, none] [.int (enV ch (min n 40) i)] G I2 (fun rv Gz Iz => (fun rv I1 => rv = some (.int (oI (pErr ch n))) ∧ (pErr ch n = none → auN I1 m (rdF ch n)) ∧ cmF I I1 m) rv Iz ∧ Gz = G) (fun _ _ _ => False) := by
                    intro _ 
                    have J325 : ∀ (_ : Unit), mx_V mX10_compile mx_S0 3 0 0 325 [some (.ref m), some (.ref r), some (.int (nI f)), some (.int (nI n)), some (.int (nI dp)), some (.int (nI (i + 1))), some (.int (nI (ch i))), some (.int (sgK (ch i))), some (.int (mx_b (decide (((97 ≤ ch i ∧ ch i ≤ 100) ∨ (65 ≤ ch i ∧ ch i ≤ 68) ∨ ch i = 46) ∨ ch i = 41)))), none, some (.int (mx_b (decide (part.2.2 = true)))), some (.int (nI part.1)), some (.int (nI part.2.1)), some (.int (enV ch (min n 40) i)), none] [.int (mx_b (decide ((nxC ch (min n 40) i) = 42 ∨ (nxC ch (min n 40) i) = 43)))] G I2 (fun rv Gz Iz => (fun rv I1 => rv = some (.int (oI (pErr ch n))) ∧ (pErr ch n = none → auN I1 m (rdF ch n)) ∧ cmF I I1 m) rv Iz ∧ Gz = G) (fun _ _ _ => False) := by
                      intro _ 
                      have J340 : ∀ (I3 : mx_I), (cm3 I3 m dp en br A1 part (nxC ch (min n 40) i) sg2) → (cmF I I3 m) → mx_V mX10_compile mx_S0 3 0 0 340 [some (.ref m), some (.ref r), some (.int (nI f)), some (.int (nI n)), some (.int (nI dp)), some (.int (nI (i + 1))), some (.int (nI (ch i))), some (.int (sgK (ch i))), some (.int (mx_b (decide (((97 ≤ ch i ∧ ch i ≤ 100) ∨ (65 ≤ ch i ∧ ch i ≤ 68) ∨ ch i = 46) ∨ ch i = 41)))), none, some (.int (mx_b (decide (part.2.2 = true)))), some (.int (nI part.1)), some (.int (nI part.2.1)), some (.int (enV ch (min n 40) i)), some (.int (mx_b (decide ((nxC ch (min n 40) i) = 42 ∨ (nxC ch (min n 40) i) = 43))))] [] G I3 (fun rv Gz Iz => (fun rv I1 => rv = some (.int (oI (pErr ch n))) ∧ (pErr ch n = none → auN I1 m (rdF ch n)) ∧ cmF I I1 m) rv Iz ∧ Gz = G) (fun _ _ _ => False) := by
                        intro I3 h3c hf3
                        have J364 : ∀ (_ : Unit), mx_V mX10_compile mx_S0 3 0 0 364 [some (.ref m), some (.ref r), some (.int (nI f)), some (.int (nI n)), some (.int (nI dp)), some (.int (nI (i + 1))), some (.int (nI (ch i))), some (.int (sgK (ch i))), some (.int (mx_b (decide (((97 ≤ ch i ∧ ch i ≤ 100) ∨ (65 ≤ ch i ∧ ch i ≤ 68) ∨ ch i = 46) ∨ ch i = 41)))), none, some (.int (mx_b (decide (part.2.2 = true)))), some (.int (nI part.1)), some (.int (nI part.2.1)), some (.int (enV ch (min n 40) i)), some (.int (mx_b (decide ((nxC ch (min n 40) i) = 42 ∨ (nxC ch (min n 40) i) = 43))))] [.int (mx_b (decide (emp part.2.2 (nxC ch (min n 40) i) = true)))] G I3 (fun rv Gz Iz => (fun rv I1 => rv = some (.int (oI (pErr ch n))) ∧ (pErr ch n = none → auN I1 m (rdF ch n)) ∧ cmF I I1 m) rv Iz ∧ Gz = G) (fun _ _ _ => False) := by
                          intro _ 
                          have J385 : ∀ (_ : Unit), mx_V mX10_compile mx_S0 3 0 0 385 [some (.ref m), some (.ref r), some (.int (nI f)), some (.int (nI n)), some (.int (nI dp)), some (.int (nI (i + 1))), some (.int (nI (ch i))), some (.int (sgK (ch i))), some (.int (mx_b (decide (((97 ≤ ch i ∧ ch i ≤ 100) ∨ (65 ≤ ch i ∧ ch i ≤ 68) ∨ ch i = 46) ∨ ch i = 41)))), none, some (.int (mx_b (decide (emp part.2.2 (nxC ch (min n 40) i) = true)))), some (.int (nI part.1)), some (.int (nI part.2.1)), some (.int (enV ch (min n 40) i)), some (.int (mx_b (decide ((nxC ch (min n 40) i) = 42 ∨ (nxC ch (min n 40) i) = 43))))] [.int (nI (if (nxC ch (min n 40) i) = 42 ∨ (nxC ch (min n 40) i) = 43 ∨ (nxC ch (min n 40) i) = 63 then 1 else 0)), .int (nI (i + 1))] G I3 (fun rv Gz Iz => (fun rv I1 => rv = some (.int (oI (pErr ch n))) ∧ (pErr ch n = none → auN I1 m (rdF ch n)) ∧ cmF I I1 m) rv Iz ∧ Gz = G) (fun _ _ _ => False) := by
                            intro _ 
                            refine mx_iaddN dX10_compile_385 ?_
                            refine mx_istoreE (i := 5) (ls' := [some (.ref m), some (.ref r), some (.int (nI f)), some (.int (nI n)), some (.int (nI dp)), some (.int (nI (i + 1 + (if (nxC ch (min n 40) i) = 42 ∨ (nxC ch (min n 40) i) = 43 ∨ (nxC ch (min n 40) i) = 63 then 1 else 0)))), some (.int (nI (ch i))), some (.int (sgK (ch i))), some (.int (mx_b (decide (((97 ≤ ch i ∧ ch i ≤ 100) ∨ (65 ≤ ch i ∧ ch i ≤ 68) ∨ ch i = 46) ∨ ch i = 41)))), none, some (.int (mx_b (decide (emp part.2.2 (nxC ch (min n 40) i) = true)))), some (.int (nI part.1)), some (.int (nI part.2.1)), some (.int (enV ch (min n 40) i)), some (.int (mx_b (decide ((nxC ch (min n 40) i) = 42 ∨ (nxC ch (min n 40) i) = 43))))]) (hd := dX10_compile_386) (hn := by decide) (hok := rfl) (hls := rfl) ?_
                            refine mx_aload_n (i := 0) (hi := rfl) (hl := rfl) (hd := dX10_compile_388) ?_
                            refine mx_iload (i := 4) (hl := rfl) (hd := dX10_compile_389) ?_
                            refine mx_iload (i := 10) (hl := rfl) (hd := dX10_compile_391) ?_
                            refine mx_iload (i := 11) (hl := rfl) (hd := dX10_compile_393) ?_
                            refine mx_iload (i := 12) (hl := rfl) (hd := dX10_compile_395) ?_
                            refine mx_callVi (ci := 10) (As := [.int (nI dp), .int (mx_b (decide (emp part.2.2 (nxC ch (min n 40) i) = true))), .int (nI part.1), .int (nI part.2.1)]) (rest := []) dX10_compile_397 (mt_addPart G I3 m hs0 (pL A1) (pA (if (nxC ch (min n 40) i) = 42 ∨ (nxC ch (min n 40) i) = 43 then pAllow A1 part.2.1 part.1 else A1)) h3c.1 hcy.2.2.2.2.2.1 h3c.2.2.1 dp part.1 part.2.1 (emp part.2.2 (nxC ch (min n 40) i)) (by omega) (br dp) (h3c.2.1 dp (Nat.le_refl _)).2 (Nat.lt_trans (inB21 (hcy.2.2.2.2.2.2.2.2.1 dp).2 hcy.2.2.2.2.2.1) (by decide))) km_X10_addPart rfl k_1161 k_1163 k_35 (by assumption) rfl rfl (Nat.le_of_ble_eq_true rfl) (by decide) (fun r3 I4 h4 => ?_)
                            obtain ⟨e9, k1, k2, k3⟩ := h4
                            subst e9
                            rw [adP_eq] at k2
                            have hf4 : cmF I I4 m := hf3.of (fun b k hb => k3 b k (by omega) (by omega))
                            have hr9 : rI0 (rdP dp en br A1 part (nxC ch (min n 40) i)) := hrdy ▸ rI0.K ch (min n 40) (i + 1)
                            have hc4 := cm_add h3c k1 k2 k3 hr9
                            rw [← hrdy] at hc4
                            have hx4 : rdK ch (min n 40) (i + 1) = ((rdK ch (min n 40) (i + 1)).1, (rdK ch (min n 40) (i + 1)).2.1, (rdK ch (min n 40) (i + 1)).2.2.1, (rdK ch (min n 40) (i + 1)).2.2.2) := rfl
                            have hdp4 : (rdK ch (min n 40) (i + 1)).1 = dp := by rw [hrdy]; rfl
                            have hL4 : pL (rdK ch (min n 40) (i + 1)).2.2.2 = pL A1 := by
                              rw [hrdy]
                              show pL (rdA _ _ _ _) = _
                              unfold rdA
                              split <;> rfl
                            by_cases hcon : (nxC ch (min n 40) i) = 42 ∨ (nxC ch (min n 40) i) = 43 ∨ (nxC ch (min n 40) i) = 63
                            · obtain ⟨hz1, hz2⟩ := nxC_at (ch := ch) (n := (min n 40)) (i := i) hcon
                              have hz3 : peE (ch (i + 1)) := by rw [hz2]; exact hcon
                              rw [if_pos hcon]
                              refine mx_goto (tgt := 16) dX10_compile_400 (by decide) ?_
                              refine mx_leS (ls' := [some (.ref m), some (.ref r), some (.int (nI f)), some (.int (nI n)), some (.int (nI dp)), some (.int (nI (i + 1 + 1))), none, none, none, none, none, none, none, none, none]) ⟨rfl, rfl, rfl, rfl, rfl, rfl, trivial⟩ ?_
                              exact ih (i + 1 + 1) dp 0 sg2 (rdK ch (min n 40) (i + 1)).2.1 (rdK ch (min n 40) (i + 1)).2.2.1 (pGrow (rdK ch (min n 40) (i + 1)).2.2.2) _ (by omega) (by omega) (by rw [rdK_e hz3, ← hdp4]; rfl) (by rw [← hdp4]; exact hc4) (by rw [hpe, pe_end (by omega) (by omega) hz3]; exact congrArg (fun z => peF ch n (n - (i + 1 + 1)) (i + 1 + 1) z dp 0) hL4.symm) (Or.inl rfl) hf4
                            · rw [if_neg hcon]
                              refine mx_goto (tgt := 16) dX10_compile_400 (by decide) ?_
                              refine mx_leS (ls' := [some (.ref m), some (.ref r), some (.int (nI f)), some (.int (nI n)), some (.int (nI dp)), some (.int (nI (i + 1 + 0))), none, none, none, none, none, none, none, none, none]) ⟨rfl, rfl, rfl, rfl, rfl, rfl, trivial⟩ ?_
                              exact ih (i + 1) dp 1 sg2 (rdK ch (min n 40) (i + 1)).2.1 (rdK ch (min n 40) (i + 1)).2.2.1 (rdK ch (min n 40) (i + 1)).2.2.2 _ (by omega) (by omega) (by rw [← hdp4]) (by rw [← hdp4]; exact hc4) (by rw [hpe]; exact congrArg (fun z => peF ch n (n - (i + 1)) (i + 1) z dp 1) hL4.symm) (Or.inr (nxC_no hcon)) hf4
                          refine mx_istoreE (i := 10) (ls' := [some (.ref m), some (.ref r), some (.int (nI f)), some (.int (nI n)), some (.int (nI dp)), some (.int (nI (i + 1))), some (.int (nI (ch i))), some (.int (sgK (ch i))), some (.int (mx_b (decide (((97 ≤ ch i ∧ ch i ≤ 100) ∨ (65 ≤ ch i ∧ ch i ≤ 68) ∨ ch i = 46) ∨ ch i = 41)))), none, some (.int (mx_b (decide (emp part.2.2 (nxC ch (min n 40) i) = true)))), some (.int (nI part.1)), some (.int (nI part.2.1)), some (.int (enV ch (min n 40) i)), some (.int (mx_b (decide ((nxC ch (min n 40) i) = 42 ∨ (nxC ch (min n 40) i) = 43))))]) (hd := dX10_compile_364) (hn := by decide) (hok := rfl) (hls := rfl) ?_
                          refine mx_iload (i := 5) (hl := rfl) (hd := dX10_compile_366) ?_
                          refine mx_iload (i := 14) (hl := rfl) (hd := dX10_compile_368) ?_
                          refine mx_ifB_ne 380 dX10_compile_370 (by decide) (fun c370 => ?_) (fun c370 => ?_)
                          · skip
                            refine mx_iconstN 1 dX10_compile_380 (by decide) ?_
                            refine mx_goto (tgt := 385) dX10_compile_381 (by decide) ?_
                            refine mx_top (y := nI (if (nxC ch (min n 40) i) = 42 ∨ (nxC ch (min n 40) i) = 43 ∨ (nxC ch (min n 40) i) = 63 then 1 else 0)) (by rw [if_pos (by omega)]) ?_
                            exact J385 ()
                          · skip
                            refine mx_iload (i := 13) (hl := rfl) (hd := dX10_compile_373) ?_
                            refine mx_bipushN 63 dX10_compile_375 (by decide) ?_
                            refine mx_icmp_ne (tgt := 384) dX10_compile_377 (by decide) (fun c377 => ?_) (fun c377 => ?_)
                            · skip
                              have e377 : ¬ (nxC ch (min n 40) i) = 63 := fun q => c377 ((enV_iff hch8m (by decide)).mpr q)
                              refine mx_iconstN 0 dX10_compile_384 (by decide) ?_
                              refine mx_top (y := nI (if (nxC ch (min n 40) i) = 42 ∨ (nxC ch (min n 40) i) = 43 ∨ (nxC ch (min n 40) i) = 63 then 1 else 0)) (by rw [if_neg (by omega)]) ?_
                              exact J385 ()
                            · skip
                              have e377 := (enV_iff hch8m (by decide)).mp c377
                              refine mx_iconstN 1 dX10_compile_380 (by decide) ?_
                              refine mx_goto (tgt := 385) dX10_compile_381 (by decide) ?_
                              refine mx_top (y := nI (if (nxC ch (min n 40) i) = 42 ∨ (nxC ch (min n 40) i) = 43 ∨ (nxC ch (min n 40) i) = 63 then 1 else 0)) (by rw [if_pos (by omega)]) ?_
                              exact J385 ()
                        refine mx_iload (i := 10) (hl := rfl) (hd := dX10_compile_340) ?_
                        refine mx_ifB_ne 359 dX10_compile_342 (by decide) (fun c342 => ?_) (fun c342 => ?_)
                        · skip
                          refine mx_iconstN 1 dX10_compile_359 (by decide) ?_
                          refine mx_goto (tgt := 364) dX10_compile_360 (by decide) ?_
                          refine mx_top (y := mx_b (decide (emp part.2.2 (nxC ch (min n 40) i) = true))) (mx_bT (emp_1 (by first | exact Or.inl c342 | exact Or.inr (Or.inl e349) | exact Or.inr (Or.inr e356)))) ?_
                          exact J364 ()
                        · skip
                          refine mx_iload (i := 13) (hl := rfl) (hd := dX10_compile_345) ?_
                          refine mx_bipushN 42 dX10_compile_347 (by decide) ?_
                          refine mx_icmp_eq (tgt := 359) dX10_compile_349 (by decide) (fun c349 => ?_) (fun c349 => ?_)
                          · skip
                            have e349 := (enV_iff hch8m (by decide)).mp c349
                            refine mx_iconstN 1 dX10_compile_359 (by decide) ?_
                            refine mx_goto (tgt := 364) dX10_compile_360 (by decide) ?_
                            refine mx_top (y := mx_b (decide (emp part.2.2 (nxC ch (min n 40) i) = true))) (mx_bT (emp_1 (by first | exact Or.inl c342 | exact Or.inr (Or.inl e349) | exact Or.inr (Or.inr e356)))) ?_
                            exact J364 ()
                          · skip
                            have e349 : ¬ (nxC ch (min n 40) i) = 42 := fun q => c349 ((enV_iff hch8m (by decide)).mpr q)
                            refine mx_iload (i := 13) (hl := rfl) (hd := dX10_compile_352) ?_
                            refine mx_bipushN 63 dX10_compile_354 (by decide) ?_
                            refine mx_icmp_ne (tgt := 363) dX10_compile_356 (by decide) (fun c356 => ?_) (fun c356 => ?_)
                            · skip
                              have e356 : ¬ (nxC ch (min n 40) i) = 63 := fun q => c356 ((enV_iff hch8m (by decide)).mpr q)
                              refine mx_iconstN 0 dX10_compile_363 (by decide) ?_
                              refine mx_top (y := mx_b (decide (emp part.2.2 (nxC ch (min n 40) i) = true))) (mx_bF (emp_0 c342 e349 e356)) ?_
                              exact J364 ()
                            · skip
                              have e356 := (enV_iff hch8m (by decide)).mp c356
                              refine mx_iconstN 1 dX10_compile_359 (by decide) ?_
                              refine mx_goto (tgt := 364) dX10_compile_360 (by decide) ?_
                              refine mx_top (y := mx_b (decide (emp part.2.2 (nxC ch (min n 40) i) = true))) (mx_bT (emp_1 (by first | exact Or.inl c342 | exact Or.inr (Or.inl e349) | exact Or.inr (Or.inr e356)))) ?_
                              exact J364 ()
                      refine mx_istoreE (i := 14) (ls' := [some (.ref m), some (.ref r), some (.int (nI f)), some (.int (nI n)), some (.int (nI dp)), some (.int (nI (i + 1))), some (.int (nI (ch i))), some (.int (sgK (ch i))), some (.int (mx_b (decide (((97 ≤ ch i ∧ ch i ≤ 100) ∨ (65 ≤ ch i ∧ ch i ≤ 68) ∨ ch i = 46) ∨ ch i = 41)))), none, some (.int (mx_b (decide (part.2.2 = true)))), some (.int (nI part.1)), some (.int (nI part.2.1)), some (.int (enV ch (min n 40) i)), some (.int (mx_b (decide ((nxC ch (min n 40) i) = 42 ∨ (nxC ch (min n 40) i) = 43))))]) (hd := dX10_compile_325) (hn := by decide) (hok := rfl) (hls := rfl) ?_
                      refine mx_iload (i := 14) (hl := rfl) (hd := dX10_compile_327) ?_
                      refine mx_ifB_eq 340 dX10_compile_329 (by decide) (fun c329 => ?_) (fun c329 => ?_)
                      · skip
                        exact J340 _ (cm3_0 hcy c329) hf2
                      · skip
                        refine mx_aload_n (i := 0) (hi := rfl) (hl := rfl) (hd := dX10_compile_332) ?_
                        refine mx_iload (i := 12) (hl := rfl) (hd := dX10_compile_333) ?_
                        refine mx_iload (i := 11) (hl := rfl) (hd := dX10_compile_335) ?_
                        refine mx_callVi (ci := 10) (As := [.int (nI part.2.1), .int (nI part.1)]) (rest := []) dX10_compile_337 (mt_letFollow G I2 m hs0 (pL A1) (pA A1) hcy.1 hcy.2.2.2.2.2.1 hcy.2.2.1 part.2.1 part.1 (Nat.lt_trans hpw (by decide))) km_X10_letFollow rfl k_1157 k_1159 k_34 (by assumption) rfl rfl (Nat.le_of_ble_eq_true rfl) (by decide) (fun r5 I3 h6 => ?_)
                        obtain ⟨e9, n1, n2⟩ := h6
                        subst e9
                        exact J340 _ (cm3_1 hcy c329 n1 n2) (hf2.of (fun b k hb => n2 b k (by omega)))
                    refine mx_istoreE (i := 13) (ls' := [some (.ref m), some (.ref r), some (.int (nI f)), some (.int (nI n)), some (.int (nI dp)), some (.int (nI (i + 1))), some (.int (nI (ch i))), some (.int (sgK (ch i))), some (.int (mx_b (decide (((97 ≤ ch i ∧ ch i ≤ 100) ∨ (65 ≤ ch i ∧ ch i ≤ 68) ∨ ch i = 46) ∨ ch i = 41)))), none, some (.int (mx_b (decide (part.2.2 = true)))), some (.int (nI part.1)), some (.int (nI part.2.1)), some (.int (enV ch (min n 40) i)), none]) (hd := dX10_compile_304) (hn := by decide) (hok := rfl) (hls := rfl) ?_
                    refine mx_iload (i := 13) (hl := rfl) (hd := dX10_compile_306) ?_
                    refine mx_bipushN 42 dX10_compile_308 (by decide) ?_
                    refine mx_icmp_eq (tgt := 320) dX10_compile_310 (by decide) (fun c310 => ?_) (fun c310 => ?_)
                    · skip
                      have e310 := (enV_iff hch8m (by decide)).mp c310
                      refine mx_iconstN 1 dX10_compile_320 (by decide) ?_
                      refine mx_goto (tgt := 325) dX10_compile_321 (by decide) ?_
                      refine mx_top (y := mx_b (decide ((nxC ch (min n 40) i) = 42 ∨ (nxC ch (min n 40) i) = 43))) (mx_bT (by omega)) ?_
                      exact J325 ()
                    · skip
                      have e310 : ¬ (nxC ch (min n 40) i) = 42 := fun q => c310 ((enV_iff hch8m (by decide)).mpr q)
                      refine mx_iload (i := 13) (hl := rfl) (hd := dX10_compile_313) ?_
                      refine mx_bipushN 43 dX10_compile_315 (by decide) ?_
                      refine mx_icmp_ne (tgt := 324) dX10_compile_317 (by decide) (fun c317 => ?_) (fun c317 => ?_)
                      · skip
                        have e317 : ¬ (nxC ch (min n 40) i) = 43 := fun q => c317 ((enV_iff hch8m (by decide)).mpr q)
                        refine mx_iconstN 0 dX10_compile_324 (by decide) ?_
                        refine mx_top (y := mx_b (decide ((nxC ch (min n 40) i) = 42 ∨ (nxC ch (min n 40) i) = 43))) (mx_bF (by omega)) ?_
                        exact J325 ()
                      · skip
                        have e317 := (enV_iff hch8m (by decide)).mp c317
                        refine mx_iconstN 1 dX10_compile_320 (by decide) ?_
                        refine mx_goto (tgt := 325) dX10_compile_321 (by decide) ?_
                        refine mx_top (y := mx_b (decide ((nxC ch (min n 40) i) = 42 ∨ (nxC ch (min n 40) i) = 43))) (mx_bT (by omega)) ?_
                        exact J325 ()
                  refine mx_iincE (i := 5) (ls' := [some (.ref m), some (.ref r), some (.int (nI f)), some (.int (nI n)), some (.int (nI dp)), some (.int (nI (i + 1))), some (.int (nI (ch i))), some (.int (sgK (ch i))), some (.int (mx_b (decide (((97 ≤ ch i ∧ ch i ≤ 100) ∨ (65 ≤ ch i ∧ ch i ≤ 68) ∨ ch i = 46) ∨ ch i = 41)))), none, some (.int (mx_b (decide (part.2.2 = true)))), some (.int (nI part.1)), some (.int (nI part.2.1)), none, none]) 1 dX10_compile_272 rfl (by decide) (by decide) rfl rfl ?_
                  refine mx_iload (i := 8) (hl := rfl) (hd := dX10_compile_275) ?_
                  refine mx_ifB_eq 400 dX10_compile_277 (by decide) (fun c277 => ?_) (fun c277 => ?_)
                  · skip
                    exact absurd hen c277
                  · skip
                    refine mx_iload (i := 5) (hl := rfl) (hd := dX10_compile_280) ?_
                    refine mx_iload_n (i := 3) (hi := rfl) (hl := rfl) (hd := dX10_compile_282) ?_
                    refine mx_cmpN_ge 302 dX10_compile_283 (by decide) (by omega) (by omega) (fun c283 => ?_) (fun c283 => ?_)
                    · skip
                      refine mx_bipush (v := (-9)) (by decide) dX10_compile_302 ?_
                      refine mx_top (y := enV ch (min n 40) i) (Eq.symm (if_neg (by omega))) ?_
                      exact J304 ()
                    · skip
                      refine mx_iload (i := 5) (hl := rfl) (hd := dX10_compile_286) ?_
                      refine mx_bipushN 40 dX10_compile_288 (by decide) ?_
                      refine mx_cmpN_ge 302 dX10_compile_290 (by decide) (by omega) (by omega) (fun c290 => ?_) (fun c290 => ?_)
                      · skip
                        refine mx_bipush (v := (-9)) (by decide) dX10_compile_302 ?_
                        refine mx_top (y := enV ch (min n 40) i) (Eq.symm (if_neg (by omega))) ?_
                        exact J304 ()
                      · skip
                        refine mx_aload_n (i := 1) (hi := rfl) (hl := rfl) (hd := dX10_compile_293) ?_
                        refine mx_iload_n (i := 2) (hi := rfl) (hl := rfl) (hd := dX10_compile_294) ?_
                        refine mx_iload (i := 5) (hl := rfl) (hd := dX10_compile_295) ?_
                        refine mx_iaddN dX10_compile_297 ?_
                        refine mx_ialdV (f + (i + 1)) (nI (ch (i + 1))) dX10_compile_298 (by assumption) ⟨rfl, by omega, by omega⟩ (by rw [hf2.1 r (by omega)]; exact hrow (i + 1) (by omega)) ?_
                        refine mx_goto (tgt := 304) dX10_compile_299 (by decide) ?_
                        refine mx_top (y := enV ch (min n 40) i) (Eq.symm (if_pos (by omega))) ?_
                        exact J304 ()
                refine mx_iconstN 0 dX10_compile_129 (by decide) ?_
                refine mx_istoreE (i := 10) (ls' := [some (.ref m), some (.ref r), some (.int (nI f)), some (.int (nI n)), some (.int (nI op)), some (.int (nI i)), some (.int (nI (ch i))), some (.int (sgK (ch i))), some (.int (mx_b (decide (((97 ≤ ch i ∧ ch i ≤ 100) ∨ (65 ≤ ch i ∧ ch i ≤ 68) ∨ ch i = 46) ∨ ch i = 41)))), some (.int (mx_b (decide (gdP (pL A) op (ch i))))), some (.int (nI 0)), none, none, none, none]) (hd := dX10_compile_130) (hn := by decide) (hok := rfl) (hls := rfl) ?_
                refine mx_iconstN 0 dX10_compile_132 (by decide) ?_
                refine mx_istoreE (i := 11) (ls' := [some (.ref m), some (.ref r), some (.int (nI f)), some (.int (nI n)), some (.int (nI op)), some (.int (nI i)), some (.int (nI (ch i))), some (.int (sgK (ch i))), some (.int (mx_b (decide (((97 ≤ ch i ∧ ch i ≤ 100) ∨ (65 ≤ ch i ∧ ch i ≤ 68) ∨ ch i = 46) ∨ ch i = 41)))), some (.int (mx_b (decide (gdP (pL A) op (ch i))))), some (.int (nI 0)), some (.int (nI 0)), none, none, none]) (hd := dX10_compile_133) (hn := by decide) (hok := rfl) (hls := rfl) ?_
                refine mx_iconstN 0 dX10_compile_135 (by decide) ?_
                refine mx_istoreE (i := 12) (ls' := [some (.ref m), some (.ref r), some (.int (nI f)), some (.int (nI n)), some (.int (nI op)), some (.int (nI i)), some (.int (nI (ch i))), some (.int (sgK (ch i))), some (.int (mx_b (decide (((97 ≤ ch i ∧ ch i ≤ 100) ∨ (65 ≤ ch i ∧ ch i ≤ 68) ∨ ch i = 46) ∨ ch i = 41)))), some (.int (mx_b (decide (gdP (pL A) op (ch i))))), some (.int (nI 0)), some (.int (nI 0)), some (.int (nI 0)), none, none]) (hd := dX10_compile_136) (hn := by decide) (hok := rfl) (hls := rfl) ?_
                refine mx_iload (i := 7) (hl := rfl) (hd := dX10_compile_138) ?_
                refine mx_bipush (v := (-9)) (by decide) dX10_compile_140 ?_
                refine mx_icmp_eq (tgt := 195) dX10_compile_142 (by decide) (fun c142 => ?_) (fun c142 => ?_)
                · skip
                  have d142 : ¬ ((97 ≤ ch i ∧ ch i ≤ 100) ∨ (65 ≤ ch i ∧ ch i ≤ 68) ∨ ch i = 46) := sgK_iff.mp c142
                  refine mx_iload (i := 6) (hl := rfl) (hd := dX10_compile_195) ?_
                  refine mx_bipushN 40 dX10_compile_197 (by decide) ?_
                  refine mx_cmpN_ne 214 dX10_compile_199 (by decide) (by omega) (by omega) (fun c199 => ?_) (fun c199 => ?_)
                  · skip
                    refine mx_iload (i := 6) (hl := rfl) (hd := dX10_compile_214) ?_
                    refine mx_bipushN 124 dX10_compile_216 (by decide) ?_
                    refine mx_cmpN_ne 236 dX10_compile_218 (by decide) (by omega) (by omega) (fun c218 => ?_) (fun c218 => ?_)
                    · skip
                      have h41 : ch i = 41 := by omega
                      refine mx_aload_n (i := 0) (hi := rfl) (hl := rfl) (hd := dX10_compile_236) ?_
                      refine mx_iload (i := 4) (hl := rfl) (hd := dX10_compile_237) ?_
                      refine mx_callVi (ci := 10) (As := [.int (nI op)]) (rest := []) dX10_compile_239 (mt_endBranch G I1 m hs0 op (by omega) (en op) (br op) (hcm.2.1 op (Nat.le_refl _)).1 (hcm.2.1 op (Nat.le_refl _)).2) km_X10_endBranch rfl k_1153 k_1155 k_33 (by assumption) rfl rfl (Nat.le_of_ble_eq_true rfl) (by decide) (fun r7 I4 h8 => ?_)
                      obtain ⟨e9, q1, q2⟩ := h8
                      subst e9
                      refine mx_aload_n (i := 0) (hi := rfl) (hl := rfl) (hd := dX10_compile_242) ?_
                      refine mx_getR (ci := 10) (k := 17) (r := (m + 10)) dX10_compile_243 k_1030 (by decide) rfl (by assumption) (by assumption) (by omega) ?_
                      refine mx_iload (i := 4) (hl := rfl) (hd := dX10_compile_246) ?_
                      refine mx_zaldV op (mx_b (decide ((rdO (en op) (br op)).2.2 = true)) : Int32) dX10_compile_248 (by assumption) ⟨rfl, by omega, by omega⟩ (by rw [mx_dec]; exact q1.1) ?_
                      refine mx_istoreE (i := 10) (ls' := [some (.ref m), some (.ref r), some (.int (nI f)), some (.int (nI n)), some (.int (nI op)), some (.int (nI i)), some (.int (nI (ch i))), some (.int (sgK (ch i))), some (.int (mx_b (decide (((97 ≤ ch i ∧ ch i ≤ 100) ∨ (65 ≤ ch i ∧ ch i ≤ 68) ∨ ch i = 46) ∨ ch i = 41)))), some (.int (mx_b (decide (gdP (pL A) op (ch i))))), some (.int (mx_b (decide ((rdO (en op) (br op)).2.2 = true)))), some (.int (nI 0)), some (.int (nI 0)), none, none]) (hd := dX10_compile_249) (hn := by decide) (hok := rfl) (hls := rfl) ?_
                      refine mx_aload_n (i := 0) (hi := rfl) (hl := rfl) (hd := dX10_compile_251) ?_
                      refine mx_getR (ci := 10) (k := 18) (r := (m + 11)) dX10_compile_252 k_1031 (by decide) rfl (by assumption) (by assumption) (by omega) ?_
                      refine mx_iload (i := 4) (hl := rfl) (hd := dX10_compile_255) ?_
                      refine mx_ialdV op (nI ((rdO (en op) (br op)).1)) dX10_compile_257 (by assumption) ⟨rfl, by omega, by omega⟩ q1.2.1 ?_
                      refine mx_istoreE (i := 11) (ls' := [some (.ref m), some (.ref r), some (.int (nI f)), some (.int (nI n)), some (.int (nI op)), some (.int (nI i)), some (.int (nI (ch i))), some (.int (sgK (ch i))), some (.int (mx_b (decide (((97 ≤ ch i ∧ ch i ≤ 100) ∨ (65 ≤ ch i ∧ ch i ≤ 68) ∨ ch i = 46) ∨ ch i = 41)))), some (.int (mx_b (decide (gdP (pL A) op (ch i))))), some (.int (mx_b (decide ((rdO (en op) (br op)).2.2 = true)))), some (.int (nI ((rdO (en op) (br op)).1))), some (.int (nI 0)), none, none]) (hd := dX10_compile_258) (hn := by decide) (hok := rfl) (hls := rfl) ?_
                      refine mx_aload_n (i := 0) (hi := rfl) (hl := rfl) (hd := dX10_compile_260) ?_
                      refine mx_getR (ci := 10) (k := 19) (r := (m + 12)) dX10_compile_261 k_1032 (by decide) rfl (by assumption) (by assumption) (by omega) ?_
                      refine mx_iload (i := 4) (hl := rfl) (hd := dX10_compile_264) ?_
                      refine mx_ialdV op (nI ((rdO (en op) (br op)).2.1)) dX10_compile_266 (by assumption) ⟨rfl, by omega, by omega⟩ q1.2.2 ?_
                      refine mx_istoreE (i := 12) (ls' := [some (.ref m), some (.ref r), some (.int (nI f)), some (.int (nI n)), some (.int (nI op)), some (.int (nI i)), some (.int (nI (ch i))), some (.int (sgK (ch i))), some (.int (mx_b (decide (((97 ≤ ch i ∧ ch i ≤ 100) ∨ (65 ≤ ch i ∧ ch i ≤ 68) ∨ ch i = 46) ∨ ch i = 41)))), some (.int (mx_b (decide (gdP (pL A) op (ch i))))), some (.int (mx_b (decide ((rdO (en op) (br op)).2.2 = true)))), some (.int (nI ((rdO (en op) (br op)).1))), some (.int (nI ((rdO (en op) (br op)).2.1))), none, none]) (hd := dX10_compile_267) (hn := by decide) (hok := rfl) (hls := rfl) ?_
                      refine mx_iinc (i := 4) (v := nI (op - 1)) (hl := rfl) (hd := dX10_compile_269) (hv := nI_dec (by omega)) (hn := by decide) (hok := rfl) ?_
                      refine mx_leS (ls' := [some (.ref m), some (.ref r), some (.int (nI f)), some (.int (nI n)), some (.int (nI (op - 1))), some (.int (nI i)), some (.int (nI (ch i))), some (.int (sgK (ch i))), some (.int (mx_b (decide (((97 ≤ ch i ∧ ch i ≤ 100) ∨ (65 ≤ ch i ∧ ch i ≤ 68) ∨ ch i = 46) ∨ ch i = 41)))), none, some (.int (mx_b (decide ((rdO (en op) (br op)).2.2 = true)))), some (.int (nI ((rdO (en op) (br op)).1))), some (.int (nI ((rdO (en op) (br op)).2.1))), none, none]) ⟨rfl, rfl, rfl, rfl, rfl, rfl, rfl, rfl, rfl, rfl, rfl, rfl, trivial⟩ ?_
                      exact J272 (op - 1) (pGrow A) (rdO (en op) (br op)) sg _ (by omega) (Or.inr h41) (by rw [rdK_s, hxe]; exact rd_rp h41 (by omega)) (cm_rp hcm (by omega) q2) (inB21 ((hcm.2.2.2.2.2.2.2.1 op).O (hcm.2.2.2.2.2.2.2.2.1 op)).2 hcm.2.2.2.2.2.1) (by rw [hx]; exact pe_rp (by omega) (by omega) h41 (by omega)) (hfr.of (fun b k hb => q2 b k (by omega)))
                    · skip
                      refine mx_aload_n (i := 0) (hi := rfl) (hl := rfl) (hd := dX10_compile_221) ?_
                      refine mx_iload (i := 4) (hl := rfl) (hd := dX10_compile_222) ?_
                      refine mx_callVi (ci := 10) (As := [.int (nI op)]) (rest := []) dX10_compile_224 (mt_endBranch G I1 m hs0 op (by omega) (en op) (br op) (hcm.2.1 op (Nat.le_refl _)).1 (hcm.2.1 op (Nat.le_refl _)).2) km_X10_endBranch rfl k_1153 k_1155 k_33 (by assumption) rfl rfl (Nat.le_of_ble_eq_true rfl) (by decide) (fun r9 I5 h10 => ?_)
                      obtain ⟨e9, q1, q2⟩ := h10
                      subst e9
                      refine mx_aload_n (i := 0) (hi := rfl) (hl := rfl) (hd := dX10_compile_227) ?_
                      refine mx_iload (i := 4) (hl := rfl) (hd := dX10_compile_228) ?_
                      refine mx_callVi (ci := 10) (As := [.int (nI op)]) (rest := []) dX10_compile_230 (mt_beginBranch G I5 m hs0 op (by omega)) km_X10_beginBranch rfl k_1142 k_1144 k_32 (by assumption) rfl rfl (Nat.le_of_ble_eq_true rfl) (by decide) (fun r11 I6 h12 => ?_)
                      obtain ⟨e9, q3, q4⟩ := h12
                      subst e9
                      refine mx_goto (tgt := 272) dX10_compile_233 (by decide) ?_
                      refine mx_leS (ls' := [some (.ref m), some (.ref r), some (.int (nI f)), some (.int (nI n)), some (.int (nI op)), some (.int (nI i)), some (.int (nI (ch i))), some (.int (sgK (ch i))), some (.int (mx_b (decide (((97 ≤ ch i ∧ ch i ≤ 100) ∨ (65 ≤ ch i ∧ ch i ≤ 68) ∨ ch i = 46) ∨ ch i = 41)))), none, some (.int (nI 0)), some (.int (nI 0)), some (.int (nI 0)), none, none]) ⟨rfl, rfl, rfl, rfl, rfl, rfl, rfl, rfl, rfl, rfl, rfl, rfl, trivial⟩ ?_
                      exact K272 op _ _ _ (by omega) (by rw [rdK_s, hxe]; exact rd_bar c218) (cm_bar hcm q1 q2 q3 q4) (by rw [hx]; exact pe_bar (by omega) (by omega) c218) ((hfr.of (fun b k hb => q2 b k (by omega))).of (fun b k hb => q4 b k (by omega)))
                  · skip
                    refine mx_iincE (i := 4) (ls' := [some (.ref m), some (.ref r), some (.int (nI f)), some (.int (nI n)), some (.int (nI (op + 1))), some (.int (nI i)), some (.int (nI (ch i))), some (.int (sgK (ch i))), some (.int (mx_b (decide (((97 ≤ ch i ∧ ch i ≤ 100) ∨ (65 ≤ ch i ∧ ch i ≤ 68) ∨ ch i = 46) ∨ ch i = 41)))), some (.int (mx_b (decide (gdP (pL A) op (ch i))))), some (.int (nI 0)), some (.int (nI 0)), some (.int (nI 0)), none, none]) 1 dX10_compile_202 rfl (by decide) (by decide) rfl rfl ?_
                    refine mx_aload_n (i := 0) (hi := rfl) (hl := rfl) (hd := dX10_compile_205) ?_
                    refine mx_iload (i := 4) (hl := rfl) (hd := dX10_compile_206) ?_
                    refine mx_callVi (ci := 10) (As := [.int (nI (op + 1))]) (rest := []) dX10_compile_208 (mt_beginLevel G I1 m hs0 (op + 1) (by omega)) km_X10_beginLevel rfl k_1138 k_1140 k_31 (by assumption) rfl rfl (Nat.le_of_ble_eq_true rfl) (by decide) (fun r13 I2 h14 => ?_)
                    obtain ⟨e9, q1, q2, q3⟩ := h14
                    subst e9
                    refine mx_goto (tgt := 272) dX10_compile_211 (by decide) ?_
                    refine mx_leS (ls' := [some (.ref m), some (.ref r), some (.int (nI f)), some (.int (nI n)), some (.int (nI (op + 1))), some (.int (nI i)), some (.int (nI (ch i))), some (.int (sgK (ch i))), some (.int (mx_b (decide (((97 ≤ ch i ∧ ch i ≤ 100) ∨ (65 ≤ ch i ∧ ch i ≤ 68) ∨ ch i = 46) ∨ ch i = 41)))), none, some (.int (nI 0)), some (.int (nI 0)), some (.int (nI 0)), none, none]) ⟨rfl, rfl, rfl, rfl, rfl, rfl, rfl, rfl, rfl, rfl, rfl, rfl, trivial⟩ ?_
                    exact K272 (op + 1) _ _ _ (by omega) (by rw [rdK_s, hxe]; exact rd_lp c199 (by omega)) (cm_lp hcm (by omega) q1 q2 q3) (by rw [hx]; exact pe_lp (by omega) (by omega) c199 (by omega)) (hfr.of (fun b k hb => q3 b k (by omega)))
                · skip
                  have d142 : (97 ≤ ch i ∧ ch i ≤ 100) ∨ (65 ≤ ch i ∧ ch i ≤ 68) ∨ ch i = 46 := Classical.not_not.mp (fun q => c142 (sgK_iff.mpr q))
                  refine mx_aload_n (i := 0) (hi := rfl) (hl := rfl) (hd := dX10_compile_145) ?_
                  refine mx_dup (hva := rfl) (hd := dX10_compile_146) ?_
                  refine mx_getV (ci := 10) (k := 11) (nI (pL A)) dX10_compile_147 k_1024 (by decide) rfl (by assumption) hcm.1 ?_
                  refine mx_iconstN 1 dX10_compile_150 (by decide) ?_
                  refine mx_iaddN dX10_compile_151 ?_
                  refine mx_putI (ci := 10) (k := 11) dX10_compile_152 k_1024 (by decide) rfl rfl rfl rfl (by assumption) ?_
                  refine mx_aload_n (i := 0) (hi := rfl) (hl := rfl) (hd := dX10_compile_155) ?_
                  refine mx_getR (ci := 10) (k := 16) (r := (m + 9)) dX10_compile_156 k_1029 (by decide) rfl (by assumption) (by assumption) (by omega) ?_
                  refine mx_aload_n (i := 0) (hi := rfl) (hl := rfl) (hd := dX10_compile_159) ?_
                  refine mx_getV (ci := 10) (k := 11) (nI (pL A + 1)) dX10_compile_160 k_1024 (by decide) rfl (by assumption) (by rw [mx_u_at, if_pos ⟨rfl, rfl⟩]) ?_
                  refine mx_iload (i := 7) (hl := rfl) (hd := dX10_compile_163) ?_
                  refine mx_iast (pL A + 1) dX10_compile_165 (by assumption) ⟨rfl, by omega, by omega⟩ ?_
                  refine mx_aload_n (i := 0) (hi := rfl) (hl := rfl) (hd := dX10_compile_166) ?_
                  refine mx_getR (ci := 10) (k := 15) (r := (m + 8)) dX10_compile_167 k_1028 (by decide) rfl (by assumption) (by assumption) (by omega) ?_
                  refine mx_aload_n (i := 0) (hi := rfl) (hl := rfl) (hd := dX10_compile_170) ?_
                  refine mx_getV (ci := 10) (k := 11) (nI (pL A + 1)) dX10_compile_171 k_1024 (by decide) rfl (by assumption) (by rw [mx_u_at, if_neg (by omega), mx_u_at, if_pos ⟨rfl, rfl⟩]) ?_
                  refine mx_iconstN 0 dX10_compile_174 (by decide) ?_
                  refine mx_iast (pL A + 1) dX10_compile_175 (by assumption) ⟨rfl, by omega, by omega⟩ ?_
                  refine mx_iconstN 1 dX10_compile_176 (by decide) ?_
                  refine mx_aload_n (i := 0) (hi := rfl) (hl := rfl) (hd := dX10_compile_177) ?_
                  refine mx_getV (ci := 10) (k := 11) (nI (pL A + 1)) dX10_compile_178 k_1024 (by decide) rfl (by assumption) (by rw [mx_u_at, if_neg (by omega), mx_u_at, if_neg (by omega), mx_u_at, if_pos ⟨rfl, rfl⟩]) ?_
                  refine mx_ishl1N dX10_compile_181 (by omega) ?_
                  refine mx_istoreE (i := 11) (ls' := [some (.ref m), some (.ref r), some (.int (nI f)), some (.int (nI n)), some (.int (nI op)), some (.int (nI i)), some (.int (nI (ch i))), some (.int (sgK (ch i))), some (.int (mx_b (decide (((97 ≤ ch i ∧ ch i ≤ 100) ∨ (65 ≤ ch i ∧ ch i ≤ 68) ∨ ch i = 46) ∨ ch i = 41)))), some (.int (mx_b (decide (gdP (pL A) op (ch i))))), some (.int (nI 0)), some (.int (nI (2 ^ (pL A + 1)))), some (.int (nI 0)), none, none]) (hd := dX10_compile_182) (hn := by decide) (hok := rfl) (hls := rfl) ?_
                  refine mx_iconstN 1 dX10_compile_184 (by decide) ?_
                  refine mx_aload_n (i := 0) (hi := rfl) (hl := rfl) (hd := dX10_compile_185) ?_
                  refine mx_getV (ci := 10) (k := 11) (nI (pL A + 1)) dX10_compile_186 k_1024 (by decide) rfl (by assumption) (by rw [mx_u_at, if_neg (by omega), mx_u_at, if_neg (by omega), mx_u_at, if_pos ⟨rfl, rfl⟩]) ?_
                  refine mx_ishl1N dX10_compile_189 (by omega) ?_
                  refine mx_istoreE (i := 12) (ls' := [some (.ref m), some (.ref r), some (.int (nI f)), some (.int (nI n)), some (.int (nI op)), some (.int (nI i)), some (.int (nI (ch i))), some (.int (sgK (ch i))), some (.int (mx_b (decide (((97 ≤ ch i ∧ ch i ≤ 100) ∨ (65 ≤ ch i ∧ ch i ≤ 68) ∨ ch i = 46) ∨ ch i = 41)))), some (.int (mx_b (decide (gdP (pL A) op (ch i))))), some (.int (nI 0)), some (.int (nI (2 ^ (pL A + 1)))), some (.int (nI (2 ^ (pL A + 1)))), none, none]) (hd := dX10_compile_190) (hn := by decide) (hok := rfl) (hls := rfl) ?_
                  refine mx_goto (tgt := 272) dX10_compile_192 (by decide) ?_
                  refine mx_leS (ls' := [some (.ref m), some (.ref r), some (.int (nI f)), some (.int (nI n)), some (.int (nI op)), some (.int (nI i)), some (.int (nI (ch i))), some (.int (sgK (ch i))), some (.int (mx_b (decide (((97 ≤ ch i ∧ ch i ≤ 100) ∨ (65 ≤ ch i ∧ ch i ≤ 68) ∨ ch i = 46) ∨ ch i = 41)))), none, some (.int (nI 0)), some (.int (nI (2 ^ (pL A + 1)))), some (.int (nI (2 ^ (pL A + 1)))), none, none]) ⟨rfl, rfl, rfl, rfl, rfl, rfl, rfl, rfl, rfl, rfl, rfl, rfl, trivial⟩ ?_
                  exact J272 op (pPlace (pGrow A) (ch i)) (2 ^ (pL A + 1), 2 ^ (pL A + 1), false) (upF sg (pL A + 1) (sgO (ch i))) _ hop (Or.inl d142) (by rw [rdK_s, hxe]; exact rd_let d142 (by omega)) (cm_letter hcm (by omega) d142) (Nat.pow_lt_pow_right (by decide) (by omega)) (by rw [hx]; exact pe_let (by omega) (by omega) d142 (by omega)) (((hfr.u (by omega)).u (by omega)).u (by omega))
              · skip
                refine mx_iload (i := 5) (hl := rfl) (hd := dX10_compile_126) ?_
                exact mx_iret dX10_compile_128 rfl rfl (⟨⟨by rw [hx, peF_0 (by omega) (not_ok (by omega) hbh (by first | exact Or.inl c118 | exact Or.inr c123))]; rfl, fun z => (by rw [hx, peF_0 (by omega) (not_ok (by omega) hbh (by first | exact Or.inl c118 | exact Or.inr c123))] at z; cases z), hfr⟩, rfl⟩)
          refine mx_istoreE (i := 8) (ls' := [some (.ref m), some (.ref r), some (.int (nI f)), some (.int (nI n)), some (.int (nI op)), some (.int (nI i)), some (.int (nI (ch i))), some (.int (sgK (ch i))), some (.int (mx_b (decide (((97 ≤ ch i ∧ ch i ≤ 100) ∨ (65 ≤ ch i ∧ ch i ≤ 68) ∨ ch i = 46) ∨ ch i = 41)))), none, none, none, none, none, none]) (hd := dX10_compile_56) (hn := by decide) (hok := rfl) (hls := rfl) ?_
          refine mx_iload (i := 7) (hl := rfl) (hd := dX10_compile_58) ?_
          refine mx_bipush (v := (-9)) (by decide) dX10_compile_60 ?_
          refine mx_icmp_eq (tgt := 74) dX10_compile_62 (by decide) (fun c62 => ?_) (fun c62 => ?_)
          · skip
            have d62 : ¬ ((97 ≤ ch i ∧ ch i ≤ 100) ∨ (65 ≤ ch i ∧ ch i ≤ 68) ∨ ch i = 46) := sgK_iff.mp c62
            refine mx_iload (i := 6) (hl := rfl) (hd := dX10_compile_74) ?_
            refine mx_bipushN 40 dX10_compile_76 (by decide) ?_
            refine mx_cmpN_ne 88 dX10_compile_78 (by decide) (by omega) (by omega) (fun c78 => ?_) (fun c78 => ?_)
            · skip
              refine mx_iload (i := 6) (hl := rfl) (hd := dX10_compile_88) ?_
              refine mx_bipushN 124 dX10_compile_90 (by decide) ?_
              refine mx_cmpN_eq 107 dX10_compile_92 (by decide) (by omega) (by omega) (fun c92 => ?_) (fun c92 => ?_)
              · skip
                refine mx_iconstN 1 dX10_compile_107 (by decide) ?_
                refine mx_goto (tgt := 112) dX10_compile_108 (by decide) ?_
                refine mx_top (y := mx_b (decide (gdP (pL A) op (ch i)))) (mx_bT (by omega)) ?_
                exact J112 ()
              · skip
                refine mx_iload (i := 6) (hl := rfl) (hd := dX10_compile_95) ?_
                refine mx_bipushN 41 dX10_compile_97 (by decide) ?_
                refine mx_cmpN_ne 111 dX10_compile_99 (by decide) (by omega) (by omega) (fun c99 => ?_) (fun c99 => ?_)
                · skip
                  refine mx_iconstN 0 dX10_compile_111 (by decide) ?_
                  refine mx_top (y := mx_b (decide (gdP (pL A) op (ch i)))) (mx_bF (by omega)) ?_
                  exact J112 ()
                · skip
                  refine mx_iload (i := 4) (hl := rfl) (hd := dX10_compile_102) ?_
                  refine mx_ifN_le 111 dX10_compile_104 (by decide) (by omega) (fun c104 => ?_) (fun c104 => ?_)
                  · skip
                    refine mx_iconstN 0 dX10_compile_111 (by decide) ?_
                    refine mx_top (y := mx_b (decide (gdP (pL A) op (ch i)))) (mx_bF (by omega)) ?_
                    exact J112 ()
                  · skip
                    refine mx_iconstN 1 dX10_compile_107 (by decide) ?_
                    refine mx_goto (tgt := 112) dX10_compile_108 (by decide) ?_
                    refine mx_top (y := mx_b (decide (gdP (pL A) op (ch i)))) (mx_bT (by omega)) ?_
                    exact J112 ()
            · skip
              refine mx_iload (i := 4) (hl := rfl) (hd := dX10_compile_81) ?_
              refine mx_bipushN 9 dX10_compile_83 (by decide) ?_
              refine mx_cmpN_lt 107 dX10_compile_85 (by decide) (by omega) (by omega) (fun c85 => ?_) (fun c85 => ?_)
              · skip
                refine mx_iconstN 1 dX10_compile_107 (by decide) ?_
                refine mx_goto (tgt := 112) dX10_compile_108 (by decide) ?_
                refine mx_top (y := mx_b (decide (gdP (pL A) op (ch i)))) (mx_bT (by omega)) ?_
                exact J112 ()
              · skip
                refine mx_iload (i := 6) (hl := rfl) (hd := dX10_compile_88) ?_
                refine mx_bipushN 124 dX10_compile_90 (by decide) ?_
                refine mx_cmpN_eq 107 dX10_compile_92 (by decide) (by omega) (by omega) (fun c92 => ?_) (fun c92 => ?_)
                · skip
                  refine mx_iconstN 1 dX10_compile_107 (by decide) ?_
                  refine mx_goto (tgt := 112) dX10_compile_108 (by decide) ?_
                  refine mx_top (y := mx_b (decide (gdP (pL A) op (ch i)))) (mx_bT (by omega)) ?_
                  exact J112 ()
                · skip
                  refine mx_iload (i := 6) (hl := rfl) (hd := dX10_compile_95) ?_
                  refine mx_bipushN 41 dX10_compile_97 (by decide) ?_
                  refine mx_cmpN_ne 111 dX10_compile_99 (by decide) (by omega) (by omega) (fun c99 => ?_) (fun c99 => ?_)
                  · skip
                    refine mx_iconstN 0 dX10_compile_111 (by decide) ?_
                    refine mx_top (y := mx_b (decide (gdP (pL A) op (ch i)))) (mx_bF (by omega)) ?_
                    exact J112 ()
                  · skip
                    refine mx_iload (i := 4) (hl := rfl) (hd := dX10_compile_102) ?_
                    refine mx_ifN_le 111 dX10_compile_104 (by decide) (by omega) (fun c104 => ?_) (fun c104 => ?_)
                    · skip
                      refine mx_iconstN 0 dX10_compile_111 (by decide) ?_
                      refine mx_top (y := mx_b (decide (gdP (pL A) op (ch i)))) (mx_bF (by omega)) ?_
                      exact J112 ()
                    · skip
                      refine mx_iconstN 1 dX10_compile_107 (by decide) ?_
                      refine mx_goto (tgt := 112) dX10_compile_108 (by decide) ?_
                      refine mx_top (y := mx_b (decide (gdP (pL A) op (ch i)))) (mx_bT (by omega)) ?_
                      exact J112 ()
          · skip
            have d62 : (97 ≤ ch i ∧ ch i ≤ 100) ∨ (65 ≤ ch i ∧ ch i ≤ 68) ∨ ch i = 46 := Classical.not_not.mp (fun q => c62 (sgK_iff.mpr q))
            refine mx_aload_n (i := 0) (hi := rfl) (hl := rfl) (hd := dX10_compile_65) ?_
            refine mx_getV (ci := 10) (k := 11) (nI (pL A)) dX10_compile_66 k_1024 (by decide) rfl (by assumption) hcm.1 ?_
            refine mx_bipushN 20 dX10_compile_69 (by decide) ?_
            refine mx_cmpN_lt 107 dX10_compile_71 (by decide) (by omega) (by omega) (fun c71 => ?_) (fun c71 => ?_)
            · skip
              refine mx_iconstN 1 dX10_compile_107 (by decide) ?_
              refine mx_goto (tgt := 112) dX10_compile_108 (by decide) ?_
              refine mx_top (y := mx_b (decide (gdP (pL A) op (ch i)))) (mx_bT (by omega)) ?_
              exact J112 ()
            · skip
              refine mx_iload (i := 6) (hl := rfl) (hd := dX10_compile_74) ?_
              refine mx_bipushN 40 dX10_compile_76 (by decide) ?_
              refine mx_cmpN_ne 88 dX10_compile_78 (by decide) (by omega) (by omega) (fun c78 => ?_) (fun c78 => ?_)
              · skip
                refine mx_iload (i := 6) (hl := rfl) (hd := dX10_compile_88) ?_
                refine mx_bipushN 124 dX10_compile_90 (by decide) ?_
                refine mx_cmpN_eq 107 dX10_compile_92 (by decide) (by omega) (by omega) (fun c92 => ?_) (fun c92 => ?_)
                · skip
                  refine mx_iconstN 1 dX10_compile_107 (by decide) ?_
                  refine mx_goto (tgt := 112) dX10_compile_108 (by decide) ?_
                  refine mx_top (y := mx_b (decide (gdP (pL A) op (ch i)))) (mx_bT (by omega)) ?_
                  exact J112 ()
                · skip
                  refine mx_iload (i := 6) (hl := rfl) (hd := dX10_compile_95) ?_
                  refine mx_bipushN 41 dX10_compile_97 (by decide) ?_
                  refine mx_cmpN_ne 111 dX10_compile_99 (by decide) (by omega) (by omega) (fun c99 => ?_) (fun c99 => ?_)
                  · skip
                    refine mx_iconstN 0 dX10_compile_111 (by decide) ?_
                    refine mx_top (y := mx_b (decide (gdP (pL A) op (ch i)))) (mx_bF (by omega)) ?_
                    exact J112 ()
                  · skip
                    refine mx_iload (i := 4) (hl := rfl) (hd := dX10_compile_102) ?_
                    refine mx_ifN_le 111 dX10_compile_104 (by decide) (by omega) (fun c104 => ?_) (fun c104 => ?_)
                    · skip
                      refine mx_iconstN 0 dX10_compile_111 (by decide) ?_
                      refine mx_top (y := mx_b (decide (gdP (pL A) op (ch i)))) (mx_bF (by omega)) ?_
                      exact J112 ()
                    · skip
                      refine mx_iconstN 1 dX10_compile_107 (by decide) ?_
                      refine mx_goto (tgt := 112) dX10_compile_108 (by decide) ?_
                      refine mx_top (y := mx_b (decide (gdP (pL A) op (ch i)))) (mx_bT (by omega)) ?_
                      exact J112 ()
              · skip
                refine mx_iload (i := 4) (hl := rfl) (hd := dX10_compile_81) ?_
                refine mx_bipushN 9 dX10_compile_83 (by decide) ?_
                refine mx_cmpN_lt 107 dX10_compile_85 (by decide) (by omega) (by omega) (fun c85 => ?_) (fun c85 => ?_)
                · skip
                  refine mx_iconstN 1 dX10_compile_107 (by decide) ?_
                  refine mx_goto (tgt := 112) dX10_compile_108 (by decide) ?_
                  refine mx_top (y := mx_b (decide (gdP (pL A) op (ch i)))) (mx_bT (by omega)) ?_
                  exact J112 ()
                · skip
                  refine mx_iload (i := 6) (hl := rfl) (hd := dX10_compile_88) ?_
                  refine mx_bipushN 124 dX10_compile_90 (by decide) ?_
                  refine mx_cmpN_eq 107 dX10_compile_92 (by decide) (by omega) (by omega) (fun c92 => ?_) (fun c92 => ?_)
                  · skip
                    refine mx_iconstN 1 dX10_compile_107 (by decide) ?_
                    refine mx_goto (tgt := 112) dX10_compile_108 (by decide) ?_
                    refine mx_top (y := mx_b (decide (gdP (pL A) op (ch i)))) (mx_bT (by omega)) ?_
                    exact J112 ()
                  · skip
                    refine mx_iload (i := 6) (hl := rfl) (hd := dX10_compile_95) ?_
                    refine mx_bipushN 41 dX10_compile_97 (by decide) ?_
                    refine mx_cmpN_ne 111 dX10_compile_99 (by decide) (by omega) (by omega) (fun c99 => ?_) (fun c99 => ?_)
                    · skip
                      refine mx_iconstN 0 dX10_compile_111 (by decide) ?_
                      refine mx_top (y := mx_b (decide (gdP (pL A) op (ch i)))) (mx_bF (by omega)) ?_
                      exact J112 ()
                    · skip
                      refine mx_iload (i := 4) (hl := rfl) (hd := dX10_compile_102) ?_
                      refine mx_ifN_le 111 dX10_compile_104 (by decide) (by omega) (fun c104 => ?_) (fun c104 => ?_)
                      · skip
                        refine mx_iconstN 0 dX10_compile_111 (by decide) ?_
                        refine mx_top (y := mx_b (decide (gdP (pL A) op (ch i)))) (mx_bF (by omega)) ?_
                        exact J112 ()
                      · skip
                        refine mx_iconstN 1 dX10_compile_107 (by decide) ?_
                        refine mx_goto (tgt := 112) dX10_compile_108 (by decide) ?_
                        refine mx_top (y := mx_b (decide (gdP (pL A) op (ch i)))) (mx_bT (by omega)) ?_
                        exact J112 ()
        refine mx_aload_n (i := 1) (hi := rfl) (hl := rfl) (hd := dX10_compile_22) ?_
        refine mx_iload_n (i := 2) (hi := rfl) (hl := rfl) (hd := dX10_compile_23) ?_
        refine mx_iload (i := 5) (hl := rfl) (hd := dX10_compile_24) ?_
        refine mx_iaddN dX10_compile_26 ?_
        refine mx_ialdV (f + i) (nI (ch i)) dX10_compile_27 (by assumption) ⟨rfl, by omega, by omega⟩ (by rw [hfr.1 r (by omega)]; exact hrow i (by omega)) ?_
        refine mx_istoreE (i := 6) (ls' := [some (.ref m), some (.ref r), some (.int (nI f)), some (.int (nI n)), some (.int (nI op)), some (.int (nI i)), some (.int (nI (ch i))), none, none, none, none, none, none, none, none]) (hd := dX10_compile_28) (hn := by decide) (hok := rfl) (hls := rfl) ?_
        refine mx_iload (i := 6) (hl := rfl) (hd := dX10_compile_30) ?_
        refine mx_callSp (As := [.int (nI (ch i))]) (rest := []) dX10_compile_32 (mt_signOf G I1 (ch i) hc8) km_X10_signOf rfl k_1146 k_1147 rfl rfl (Nat.le_of_ble_eq_true rfl) (by decide) ?_
        refine mx_istoreE (i := 7) (ls' := [some (.ref m), some (.ref r), some (.int (nI f)), some (.int (nI n)), some (.int (nI op)), some (.int (nI i)), some (.int (nI (ch i))), some (.int (sgK (ch i))), none, none, none, none, none, none, none]) (hd := dX10_compile_35) (hn := by decide) (hok := rfl) (hls := rfl) ?_
        refine mx_iload (i := 7) (hl := rfl) (hd := dX10_compile_37) ?_
        refine mx_bipush (v := (-9)) (by decide) dX10_compile_39 ?_
        refine mx_icmp_ne (tgt := 51) dX10_compile_41 (by decide) (fun c41 => ?_) (fun c41 => ?_)
        · skip
          have d41 : (97 ≤ ch i ∧ ch i ≤ 100) ∨ (65 ≤ ch i ∧ ch i ≤ 68) ∨ ch i = 46 := Classical.not_not.mp (fun q => c41 (sgK_iff.mpr q))
          refine mx_iconstN 1 dX10_compile_51 (by decide) ?_
          refine mx_goto (tgt := 56) dX10_compile_52 (by decide) ?_
          refine mx_top (y := mx_b (decide (((97 ≤ ch i ∧ ch i ≤ 100) ∨ (65 ≤ ch i ∧ ch i ≤ 68) ∨ ch i = 46) ∨ ch i = 41))) (mx_bT (by first | exact Or.inl d41 | exact Or.inr c48)) ?_
          exact J56 ()
        · skip
          have d41 : ¬ ((97 ≤ ch i ∧ ch i ≤ 100) ∨ (65 ≤ ch i ∧ ch i ≤ 68) ∨ ch i = 46) := sgK_iff.mp c41
          refine mx_iload (i := 6) (hl := rfl) (hd := dX10_compile_44) ?_
          refine mx_bipushN 41 dX10_compile_46 (by decide) ?_
          refine mx_cmpN_ne 55 dX10_compile_48 (by decide) (by omega) (by omega) (fun c48 => ?_) (fun c48 => ?_)
          · skip
            refine mx_iconstN 0 dX10_compile_55 (by decide) ?_
            refine mx_top (y := mx_b (decide (((97 ≤ ch i ∧ ch i ≤ 100) ∨ (65 ≤ ch i ∧ ch i ≤ 68) ∨ ch i = 46) ∨ ch i = 41))) (mx_bF (fun z => z.elim d41 c48)) ?_
            exact J56 ()
          · skip
            refine mx_iconstN 1 dX10_compile_51 (by decide) ?_
            refine mx_goto (tgt := 56) dX10_compile_52 (by decide) ?_
            refine mx_top (y := mx_b (decide (((97 ≤ ch i ∧ ch i ≤ 100) ∨ (65 ≤ ch i ∧ ch i ≤ 68) ∨ ch i = 46) ∨ ch i = 41))) (mx_bT (by first | exact Or.inl d41 | exact Or.inr c48)) ?_
            exact J56 ()
  refine mx_aload_n (i := 0) (hi := rfl) (hl := rfl) (hd := dX10_compile_0) ?_
  refine mx_iconstN 0 dX10_compile_1 (by decide) ?_
  refine mx_putI (ci := 10) (k := 11) dX10_compile_2 k_1024 (by decide) rfl rfl rfl rfl (by assumption) ?_
  refine mx_iconstN 0 dX10_compile_5 (by decide) ?_
  refine mx_istoreE (i := 4) (ls' := [some (.ref m), some (.ref r), some (.int (nI f)), some (.int (nI n)), some (.int (nI 0)), none, none, none, none, none, none, none, none, none, none]) (hd := dX10_compile_6) (hn := by decide) (hok := rfl) (hls := rfl) ?_
  refine mx_aload_n (i := 0) (hi := rfl) (hl := rfl) (hd := dX10_compile_8) ?_
  refine mx_iconstN 0 dX10_compile_9 (by decide) ?_
  refine mx_callVi (ci := 10) (As := [.int (nI 0)]) (rest := []) dX10_compile_10 (mt_beginLevel G _ m hs0 0 (by decide)) km_X10_beginLevel rfl k_1138 k_1140 k_31 (by assumption) rfl rfl (Nat.le_of_ble_eq_true rfl) (by decide) (fun r15 I2 h16 => ?_)
  obtain ⟨e9, q1, q2, q3⟩ := h16
  subst e9
  refine mx_iconstN 0 dX10_compile_13 (by decide) ?_
  refine mx_istoreE (i := 5) (ls' := [some (.ref m), some (.ref r), some (.int (nI f)), some (.int (nI n)), some (.int (nI 0)), some (.int (nI 0)), none, none, none, none, none, none, none, none, none]) (hd := dX10_compile_14) (hn := by decide) (hok := rfl) (hls := rfl) ?_
  exact L16 _ 0 0 0 (fun _ => 0) _ _ _ _ (Nat.lt_succ_self _) (Nat.zero_le _) rfl ⟨(by rw [q3 _ _ (by omega), mx_u_at, if_pos ⟨rfl, rfl⟩]; rfl), fun j hj => (by obtain rfl : j = 0 := Nat.le_zero.mp hj; exact ⟨q1, q2⟩), fun s a b => absurd (Nat.le_trans a b) (Nat.not_succ_le_zero 0), fun s a b => absurd (Nat.le_trans a b) (Nat.not_succ_le_zero 0), fun s a b => absurd (Nat.le_trans a b) (Nat.not_succ_le_zero 0), rI0.K ch (min n 40) 0⟩ rfl (Or.inl rfl) (((cmF.rf I m).u (by omega)).of (fun b k hb => q3 b k (by omega)))
