/-! THE LAW: what every graph of the state keeps; both worlds at one state -/
/-- the steps of all graphs that are held join people that there are -/
def zI (z : Zs) : Prop := inP (zG z) ∧ (∀ j, j < zC z → inP (zH z j).1) ∧ ∀ s, s < 2 → zF z s = true → inP (zK z s).1
theorem zI.push {z : Zs} (h : zI z) : zI (zPush z) := by
  obtain ⟨h1, h2, h3⟩ := h
  refine ⟨h1, fun j hj => ?_, h3⟩
  have hj : j < min (zC z + 1) 14 := hj
  show inP (if zC z < 14 then (if j = zC z then zX z else zH z j) else (if j = 13 then zX z else zH z (j + 1))).1
  by_cases c : zC z < 14
  · rw [if_pos c]
    by_cases e : j = zC z
    · rw [if_pos e]; exact h1
    · rw [if_neg e]; exact h2 j (by omega)
  · rw [if_neg c]
    by_cases e : j = 13
    · rw [if_pos e]; exact h1
    · rw [if_neg e]; exact h2 (j + 1) (by omega)
theorem zI.set {z : Zs} {v : Gr} (h : zI z) (hv : inP v) : zI (zSet z v) := ⟨hv, h.2⟩
theorem zI.txt {z : Zs} (h : zI z) (t : Nat × (Nat → Nat)) : zI (t, z.2) := h
theorem rg_all {ch : Nat → Nat} {n : Nat} : ∀ f i, rgF ch n f i = none → ∀ j, i ≤ j → j < i + f → rcOk ch j
  | 0, i, _, j, h1, h2 => absurd h2 (by omega)
  | f + 1, i, h, j, h1, h2 => by
    unfold rgF at h
    by_cases c : rcOk ch i
    · rw [if_pos c] at h
      by_cases e : j = i
      · rw [e]; exact c
      · exact rg_all f (i + 1) h j (by omega) (by omega)
    · rw [if_neg c] at h; cases h
theorem inP_gtx {ch : Nat → Nat} {n : Nat} (h : gErr ch n = none) : inP (gtx ch ((n - 2) / 4)) := fun s hs => by
  have hs : s < (n - 2) / 4 := hs
  have h1 := rg_all n 0 h
  have r0 := rc0.mp (h1 (2 + 4 * s) (by omega) (by omega))
  have r2 := rc2.mp (h1 (4 + 4 * s) (by omega) (by omega))
  exact ⟨r0.2.2, r2.2.2.1⟩
theorem zi_load {z : Zs} (h : zI z) (hf : fl_load z = 0) : zI (nx_load z) := by
  have he : gErr (zT z) (zN z) = none := by
    unfold fl_load at hf
    split at hf
    · assumption
    · cases hf
  exact ⟨inP_gtx he, fun j hj => absurd hj (Nat.not_lt_zero _), fun s _ hs => Bool.noConfusion hs⟩
theorem zi_addPerson {z : Zs} (h : zI z) : zI (nx_addPerson z) := h.push.set (fun s hs => by
  have h1 := h.1 s hs
  show gF (zG z) s < gP (zG z) + 1 ∧ gT (zG z) s < gP (zG z) + 1
  omega)
theorem zi_addStep {z : Zs} (h : zI z) {p k q c : Int32} (hf : gWhy (zG z) p k q c = 0) : zI (nx_addStep z p.toInt.toNat k.toInt.toNat q.toInt.toNat c.toInt.toNat) := by
  obtain ⟨k1, -⟩ := gWhy_0 hf
  exact h.push.set (inP_put h.1 (tn_lt k1.1) (tn_lt k1.2))
theorem fl_one_0 {n : Nat} {s : Int32} (h : fl_one n s = 0) : 0 ≤ s.toInt ∧ s.toInt < (n : Int) := by
  unfold fl_one at h
  split at h
  · cases h
  · next c => exact Classical.not_not.mp c
theorem zi_removeStep {z : Zs} (h : zI z) {s : Int32} (hf : fl_one (gN (zG z)) s = 0) : zI (nx_removeStep z s.toInt.toNat) := h.push.set (inP_drop h.1 (tn_lt (fl_one_0 hf)))
theorem zi_setCost {z : Zs} (h : zI z) (s c : Nat) : zI (nx_setCost z s c) := h.push.set h.1
theorem zi_turn {z : Zs} (h : zI z) {s : Int32} (hf : fl_turn z s = 0) : zI (nx_turn z s.toInt.toNat) := h.push.set (inP_rev h.1 (tn_lt (fl_turn_0 hf).1))
theorem zi_exchange {z : Zs} (h : zI z) (k l : Nat) : zI (nx_exchange z k l) := h.push.set h.1
theorem zi_take {z : Zs} (h : zI z) : zI (nx_take z) := ⟨h.1, h.push.2⟩
theorem zi_undo {z : Zs} (h : zI z) (hf : fl_undo z = 0) : zI (nx_undo z) := by
  have hc : 0 < zC z := by
    unfold fl_undo at hf
    split at hf
    · assumption
    · cases hf
  exact ⟨h.2.1 (zC z - 1) (by omega), fun j hj => h.2.1 j (by have hj : j < zC z - 1 := hj; omega), h.2.2⟩
theorem zi_save {z : Zs} (h : zI z) (s : Nat) : zI (nx_save z s) := by
  refine ⟨h.1, h.2.1, fun j hj hf => ?_⟩
  have hf : (if j = s then true else zF z j) = true := hf
  show inP (if j = s then zX z else zK z j).1
  by_cases e : j = s
  · rw [if_pos e]; exact h.1
  · rw [if_neg e] at hf ⊢; exact h.2.2 j hj hf
theorem zi_restore {z : Zs} (h : zI z) {s : Int32} (hf : fl_restore z s = 0) : zI (nx_restore z s.toInt.toNat) := by
  unfold fl_restore at hf
  split at hf
  · cases hf
  · next c1 =>
    split at hf
    · cases hf
    · next c2 =>
      exact ⟨h.2.2 _ (lt2 (Classical.not_not.mp c1)) (Classical.not_not.mp c2), fun j hj => absurd hj (Nat.not_lt_zero _), h.2.2⟩
theorem vG_of {G : mx_G} {I : mx_I} {a : Nat} {z : Zs} (h : cW G I a z) (hz : zI z) : vG (zX z) := ⟨h.2.2.1.1.1, h.env.2.2.2.2.1, hz.1, h.2.2.1.2.1.1⟩
/-- both worlds hold z; the answers' cell is o -/
def LW (G : mx_G) (I : mx_I) (a m o : Nat) (z : Zs) : Prop := cW G I a z ∧ mW G I m z ∧ zI z ∧ a + 146 ≤ m ∧ mx_tg G o = 4 ∧ mx_ln G o = 1
/-- the class has gone on, then the reference -/
theorem LW.go {G G1 : mx_G} {I I1 I2 : mx_I} {a m o : Nat} {z z' : Zs} (h : LW G I a m o z) (hc : cP G I a z' G1 I1) (hm : mW G1 I2 m z') (hf : mx_fr I1 I2 m (m + 23)) (hz : zI z') : LW G1 I2 a m o z' := by
  obtain ⟨h1, h2, h3, h4, h5, h6⟩ := h
  have h7 := hc.2.1 o (by rw [h5]; decide)
  exact ⟨hc.1.md hm.1 h4 hf, hm, hz, h4, h7.1.trans h5, h7.2.1.trans h6⟩
theorem cP.uL {G Gz : mx_G} {I Iz : mx_I} {a : Nat} {z : Zs} (h : cP G I a z Gz Iz) (o k : Nat) (v : Int64) : cP G I a z (mx_uL Gz o k v) Iz := h
/-- what a wrapper of the law leaves: mf the number that it answers -/
def lwQ (G : mx_G) (I : mx_I) (a o : Nat) (z : Zs) (mf : Nat) (val : Int32) (nx : Zs) (rv : Option Value) (Gz : mx_G) (Iz : mx_I) : Prop := rv = some (.int (nI mf)) ∧ (mf = 0 → cP G I a nx Gz Iz ∧ mx_lg Gz o 0 = val.toInt64) ∧ (¬ mf = 0 → cP G I a z Gz Iz)
theorem lwQ.m {G Gz : mx_G} {I Iz : mx_I} {a m o : Nat} {z nx : Zs} {mf : Nat} {val : Int32} {rv : Option Value} (h : lwQ G I a o z mf val nx rv Gz Iz) (hw : LW G I a m o z) : mW Gz Iz m z := by
  by_cases c : mf = 0
  · exact hw.2.1.sm hw.2.2.2.1 (h.2.1 c).1
  · exact hw.2.1.sm hw.2.2.2.1 (h.2.2 c)
theorem lwQ_0 {G Gz : mx_G} {I Iz : mx_I} {a o mf : Nat} {z nx : Zs} {val : Int32} (e : mf = 0) (h : cP G I a nx Gz Iz) (hl : mx_lg Gz o 0 = val.toInt64) : lwQ G I a o z mf val nx (some (.int (nI 0))) Gz Iz := by
  subst e
  exact ⟨rfl, fun _ => ⟨h, hl⟩, fun q => absurd rfl q⟩
theorem lwQ_n {G Gz : mx_G} {I Iz : mx_I} {a o mf k : Nat} {z nx : Zs} {val : Int32} (e : mf = k) (hk : k ≠ 0) (h : cP G I a z Gz Iz) : lwQ G I a o z mf val nx (some (.int (nI k))) Gz Iz := by
  subst e
  exact ⟨rfl, fun q => absurd q hk, fun _ => h⟩
theorem lgc_self (x : Int64) : lg_cmp x x = 0 := by
  unfold lg_cmp
  rw [if_neg (fun q => absurd (Int64.lt_iff_toInt_lt.mp q) (Int.lt_irrefl _)), if_pos rfl]
