/-- one shape after another: what has a kind keeps kind, length and fixed references -/
def mx_sm (G G' : mx_G) : Prop := ∀ a, mx_tg G a ≠ 0 → mx_tg G' a = mx_tg G a ∧ mx_ln G' a = mx_ln G a ∧ ∀ k, ¬ (mx_tg G a = 16 ∧ k = 6) → ¬ (mx_tg G a = 13 ∧ k = 3) → mx_rf G' a k = mx_rf G a k
theorem mx_sm.rf (G : mx_G) : mx_sm G G := fun _ _ => ⟨rfl, rfl, fun _ _ _ => rfl⟩
theorem mx_sm.tr {G G1 G2 : mx_G} (h : mx_sm G G1) (k : mx_sm G1 G2) : mx_sm G G2 := fun a ha => by
  obtain ⟨h1, h2, h3⟩ := h a ha
  obtain ⟨k1, k2, k3⟩ := k a (by rw [h1]; exact ha)
  exact ⟨k1.trans h1, k2.trans h2, fun j a1 a2 => (k3 j (by rw [h1]; exact a1) (by rw [h1]; exact a2)).trans (h3 j a1 a2)⟩
theorem mx_sm.u6 {G G1 : mx_G} (h : mx_sm G G1) {a r : Nat} (ha : mx_tg G a = 16) : mx_sm G (mx_uR G1 a 6 r) := fun b hb => by
  obtain ⟨h1, h2, h3⟩ := h b hb
  refine ⟨h1, h2, fun k q1 q2 => ?_⟩
  rw [mx_rf_uR, if_neg (fun z => q1 ⟨by rw [z.1]; exact ha, z.2⟩)]
  exact h3 k q1 q2
theorem mx_sm.u3 {G G1 : mx_G} (h : mx_sm G G1) {a r : Nat} (ha : mx_tg G a = 13) : mx_sm G (mx_uR G1 a 3 r) := fun b hb => by
  obtain ⟨h1, h2, h3⟩ := h b hb
  refine ⟨h1, h2, fun k q1 q2 => ?_⟩
  rw [mx_rf_uR, if_neg (fun z => q2 ⟨by rw [z.1]; exact ha, z.2⟩)]
  exact h3 k q1 q2
theorem mx_sm.tg {G G' : mx_G} (h : mx_sm G G') {a t : Nat} (ha : mx_tg G a = t) (h0 : t ≠ 0) : mx_tg G' a = t := (h a (by rw [ha]; exact h0)).1.trans ha
theorem mx_sm.ar {G G' : mx_G} (h : mx_sm G G') {o k a t n : Nat} (ho : mx_tg G o ≠ 0) (h6 : ¬ (mx_tg G o = 16 ∧ k = 6)) (h3 : ¬ (mx_tg G o = 13 ∧ k = 3)) (ht : t ≠ 0) (q : mx_rf G o k = a ∧ mx_tg G a = t ∧ mx_ln G a = n) : mx_rf G' o k = a ∧ mx_tg G' a = t ∧ mx_ln G' a = n :=
  ⟨((h o ho).2.2 k h6 h3).trans q.1, h.tg q.2.1 ht, (h a (by rw [q.2.1]; exact ht)).2.1.trans q.2.2⟩
theorem oST.sm {G G' : mx_G} {o : Nat} (h : oST G o) (m : mx_sm G G') : oST G' o := by
  obtain ⟨h1, h2, h3, h4, h5⟩ := h
  exact ⟨m.tg h1 (by decide), m.ar (by omega) (by omega) (by omega) (by decide) h2, m.ar (by omega) (by omega) (by omega) (by decide) h3, m.ar (by omega) (by omega) (by omega) (by decide) h4, m.ar (by omega) (by omega) (by omega) (by decide) h5⟩
theorem oPT.sm {G G' : mx_G} {o : Nat} (h : oPT G o) (m : mx_sm G G') : oPT G' o := by
  obtain ⟨h1, h2, h3, h4, h5⟩ := h
  exact ⟨m.tg h1 (by decide), m.ar (by omega) (by omega) (by omega) (by decide) h2, m.ar (by omega) (by omega) (by omega) (by decide) h3, m.ar (by omega) (by omega) (by omega) (by decide) h4, m.ar (by omega) (by omega) (by omega) (by decide) h5⟩
theorem oTX.sm {G G' : mx_G} {o : Nat} (h : oTX G o) (m : mx_sm G G') : oTX G' o := by
  obtain ⟨h1, h2, h3, h4⟩ := h
  obtain ⟨q1, q2, q3⟩ := m.ar (by omega) (by omega) (by omega) (by decide) ⟨h2, h3, h4⟩
  exact ⟨m.tg h1 (by decide), q1, q2, q3⟩
theorem oWH.sm {G G' : mx_G} {o : Nat} (h : oWH G o) (m : mx_sm G G') : oWH G' o := by
  obtain ⟨h1, h2, h3, h4⟩ := h
  obtain ⟨q1, q2, q3⟩ := m.ar (by omega) (by omega) (by omega) (by decide) ⟨h2, h3, h4⟩
  exact ⟨m.tg h1 (by decide), q1, q2, q3⟩
theorem oSE.sm {G G' : mx_G} {o : Nat} (h : oSE G o) (m : mx_sm G G') : oSE G' o := by
  obtain ⟨h1, h2, h3, h4, h5⟩ := h
  exact ⟨m.tg h1 (by decide), m.ar (by omega) (by omega) (by omega) (by decide) h2, m.ar (by omega) (by omega) (by omega) (by decide) h3, ((m o (by omega)).2.2 4 (by omega) (by omega)).trans h4, h5.sm m⟩
theorem oBP.sm {G G' : mx_G} {o : Nat} (h : oBP G o) (m : mx_sm G G') : oBP G' o := by
  obtain ⟨h1, h2, h3, h4, h5⟩ := h
  exact ⟨m.tg h1 (by decide), m.ar (by omega) (by omega) (by omega) (by decide) h2, m.ar (by omega) (by omega) (by omega) (by decide) h3, ((m o (by omega)).2.2 2 (by omega) (by omega)).trans h4, h5.sm m⟩
