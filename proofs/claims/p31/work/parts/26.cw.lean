/-! WHAT AN OBJECT OF THE CLASS HOLDS -/
/-- a graph with its pattern as a text -/
abbrev Vl : Type := Gr × Nat × (Nat → Nat)
def vA (x : Vl) : Pa := rdF x.2.2 x.2.1
def vOK (x : Vl) : Prop := gN x.1 ≤ 24 ∧ x.2.1 ≤ 40 ∧ pErr x.2.2 x.2.1 = none ∧ ∀ i, i < x.2.1 → x.2.2 i < 256
/-- text; now; how many are remembered, which; which slots are filled, with what -/
abbrev Zs : Type := (Nat × (Nat → Nat)) × Vl × (Nat × (Nat → Vl)) × (Nat → Bool) × (Nat → Vl)
abbrev zN (z : Zs) : Nat := z.1.1
abbrev zT (z : Zs) : Nat → Nat := z.1.2
abbrev zX (z : Zs) : Vl := z.2.1
abbrev zG (z : Zs) : Gr := z.2.1.1
abbrev zC (z : Zs) : Nat := z.2.2.1.1
abbrev zH (z : Zs) : Nat → Vl := z.2.2.1.2
abbrev zF (z : Zs) : Nat → Bool := z.2.2.2.1
abbrev zK (z : Zs) : Nat → Vl := z.2.2.2.2
def ptO (G : mx_G) (I : mx_I) (a r : Nat) (x : Vl) : Prop := (r = a + 3 ∨ a + 146 ≤ r) ∧ r + 5 ≤ mx_sz G ∧ oPT G r ∧ ptN I r (vA x)
def stP (G : mx_G) (I : mx_I) (a o : Nat) (x : Vl) : Prop := stN I o x.1 ∧ vOK x ∧ ptO G I a (mx_rf G o 6) x
def cB (G : mx_G) (I : mx_I) (a : Nat) : Prop := oSP G a ∧ a + 146 ≤ mx_sz G ∧ ∀ ch, ptN I (a + 3) (rdF ch 0)
def cHi (G : mx_G) (I : mx_I) (a cnt : Nat) (hi : Nat → Vl) : Prop := cnt ≤ 14 ∧ ∃ nx, nx < 14 ∧ I (a + 47) 1 = nI nx ∧ I (a + 47) 2 = nI cnt ∧ ∀ j, j < cnt → stP G I a (a + 49 + 5 * ((nx + 14 - cnt + j) % 14)) (hi j)
def cSl (G : mx_G) (I : mx_I) (a : Nat) (fl : Nat → Bool) (kp : Nat → Vl) : Prop := ∀ s, s < 2 → I (a + 130) s = mx_b (fl s) ∧ (fl s = true → stP G I a (a + 120 + 5 * s) (kp s))
def cW (G : mx_G) (I : mx_I) (a : Nat) (z : Zs) : Prop := cB G I a ∧ txN I (a + 1) (zN z) (zT z) ∧ stP G I a (a + 37) (zX z) ∧ cHi G I a (zC z) (zH z) ∧ cSl G I a (zF z) (zK z)
/-- nothing has changed but what is the object's own and changes -/
def cFr (a : Nat) (G : mx_G) (I I' : mx_I) : Prop := ∀ b, (b < a ∨ (a + 3 ≤ b ∧ b < a + 8) ∨ (a + 12 ≤ b ∧ b < a + 17) ∨ a + 146 ≤ b) → b < mx_sz G → I' b = I b
/-- no state of another has another pattern -/
def rFr (a : Nat) (G G1 : mx_G) : Prop := ∀ o, (o < a ∨ (a + 146 ≤ o ∧ o < mx_sz G)) → mx_rf G1 o 6 = mx_rf G o 6
theorem rFr.rf (a : Nat) (G : mx_G) : rFr a G G := fun _ _ => rfl
theorem rFr.u {a o r : Nat} {G G1 : mx_G} (h : rFr a G G1) (h1 : a ≤ o ∧ o < a + 146) : rFr a G (mx_uR G1 o 6 r) := fun b q => by
  rw [mx_rf_uR, if_neg (by omega)]
  exact h b q
theorem rFr.tr {a : Nat} {G G1 G2 : mx_G} (h : rFr a G G1) (hz : mx_sz G ≤ mx_sz G1) (k : rFr a G1 G2) : rFr a G G2 := fun b q => (k b (by omega)).trans (h b q)
/-- after a call: it holds z, the rest is as it was -/
def cP (G : mx_G) (I : mx_I) (a : Nat) (z : Zs) (Gz : mx_G) (Iz : mx_I) : Prop := cW Gz Iz a z ∧ mx_sm G Gz ∧ mx_sz G ≤ mx_sz Gz ∧ cFr a G I Iz ∧ rFr a G Gz
theorem cFr.rf (a : Nat) (G : mx_G) (I : mx_I) : cFr a G I I := fun _ _ _ => rfl
theorem cFr.tr {a : Nat} {G G1 : mx_G} {I I1 I2 : mx_I} (h : cFr a G I I1) (hz : mx_sz G ≤ mx_sz G1) (k : cFr a G1 I1 I2) : cFr a G I I2 := fun b q1 q2 => (k b q1 (by omega)).trans (h b q1 q2)
theorem cFr.of {a lo hi : Nat} {G : mx_G} {I I' : mx_I} (h : mx_fr I I' lo hi) (h1 : (a ≤ lo ∧ hi ≤ a + 3) ∨ (a + 17 ≤ lo ∧ hi ≤ a + 146)) : cFr a G I I' := fun b q1 _ => h b (by omega)
theorem ptN.k {I I' : mx_I} {r : Nat} {A : Pa} (h : ptN I r A) (e : ∀ b, r ≤ b → b < r + 5 → I' b = I b) : ptN I' r A := by
  obtain ⟨h1, h3, h4, h5, h6, h7, h8, h9⟩ := h
  have e0 := e r (by omega) (by omega)
  have e1 := e (r + 1) (by omega) (by omega)
  have e2 := e (r + 2) (by omega) (by omega)
  have e3 := e (r + 3) (by omega) (by omega)
  have e4 := e (r + 4) (by omega) (by omega)
  exact ⟨h1, by rw [e0]; exact h3, by rw [e0]; exact h4, by rw [e0]; exact h5, fun s hs => by rw [e1]; exact h6 s hs, fun s hs => by rw [e2]; exact h7 s hs, fun s hs => by rw [e3]; exact h8 s hs, fun s hs => by rw [e4]; exact h9 s hs⟩
theorem stN.k {I I' : mx_I} {r : Nat} {v : Gr} (h : stN I r v) (e : ∀ b, r ≤ b → b < r + 5 → I' b = I b) : stN I' r v := by
  obtain ⟨h1, h3, h4, h5, h6, h7, h8⟩ := h
  have e0 := e r (by omega) (by omega)
  have e1 := e (r + 1) (by omega) (by omega)
  have e2 := e (r + 2) (by omega) (by omega)
  have e3 := e (r + 3) (by omega) (by omega)
  have e4 := e (r + 4) (by omega) (by omega)
  exact ⟨h1, by rw [e0]; exact h3, by rw [e0]; exact h4, fun s hs => by rw [e1]; exact h5 s hs, fun s hs => by rw [e2]; exact h6 s hs, fun s hs => by rw [e3]; exact h7 s hs, fun s hs => by rw [e4]; exact h8 s hs⟩
theorem ptO.k {G G' : mx_G} {I I' : mx_I} {a r : Nat} {x : Vl} (h : ptO G I a r x) (ha : a + 146 ≤ mx_sz G) (m : mx_sm G G') (hz : mx_sz G ≤ mx_sz G') (f : cFr a G I I') : ptO G' I' a r x := by
  obtain ⟨h1, h2, h3, h4⟩ := h
  exact ⟨h1, by omega, h3.sm m, h4.k (fun b q1 q2 => f b (by omega) (by omega))⟩
theorem stP.k {G G' : mx_G} {I I' : mx_I} {a o : Nat} {x : Vl} (h : stP G I a o x) (ha : a + 146 ≤ mx_sz G) (m : mx_sm G G') (hz : mx_sz G ≤ mx_sz G') (f : cFr a G I I') (hr : mx_rf G' o 6 = mx_rf G o 6) (e : ∀ b, o ≤ b → b < o + 5 → I' b = I b) : stP G' I' a o x := by
  obtain ⟨h1, h2, h3⟩ := h
  exact ⟨h1.k e, h2, by rw [hr]; exact h3.k ha m hz f⟩
theorem oSP.sm {G G' : mx_G} {a : Nat} (h : oSP G a) (m : mx_sm G G') : oSP G' a := by
  obtain ⟨h0, ⟨f0, o0⟩, ⟨f1, o1⟩, ⟨f2, o2⟩, ⟨f3, o3⟩, ⟨f4, o4⟩, ⟨f5, o5⟩, ⟨f6, t6, l6, ⟨g0, q0⟩, ⟨g1, q1⟩⟩, ⟨f7, t7, l7⟩, ⟨f8, o8⟩, ⟨f9, o9⟩, ⟨f10, o10⟩⟩ := h
  have ma := (m a (by omega)).2.2
  have r : ∀ k r, mx_rf G a k = r → mx_rf G' a k = r := fun k r e => (ma k (by omega) (by omega)).trans e
  obtain ⟨a1, a2, a3⟩ := m.ar (by omega) (by omega) (by omega) (by decide) ⟨f6, t6, l6⟩
  exact ⟨m.tg h0 (by decide), ⟨r _ _ f0, o0.sm m⟩, ⟨r _ _ f1, o1.sm m⟩, ⟨r _ _ f2, o2.sm m⟩, ⟨r _ _ f3, o3.sm m⟩, ⟨r _ _ f4, o4.sm m⟩, ⟨r _ _ f5, o5.sm m⟩, ⟨a1, a2, a3, ⟨((m (a + 119) (by omega)).2.2 0 (by omega) (by omega)).trans g0, q0.sm m⟩, ⟨((m (a + 119) (by omega)).2.2 1 (by omega) (by omega)).trans g1, q1.sm m⟩⟩, m.ar (by omega) (by omega) (by omega) (by decide) ⟨f7, t7, l7⟩, ⟨r _ _ f8, o8.sm m⟩, ⟨r _ _ f9, o9.sm m⟩, ⟨r _ _ f10, o10.sm m⟩⟩
theorem cB.k {G G' : mx_G} {I I' : mx_I} {a : Nat} (h : cB G I a) (m : mx_sm G G') (hz : mx_sz G ≤ mx_sz G') (f : cFr a G I I') : cB G' I' a := by
  obtain ⟨h1, h2, h3⟩ := h
  exact ⟨h1.sm m, by omega, fun ch => (h3 ch).k (fun b q1 q2 => f b (by omega) (by omega))⟩
theorem txN.k {I I' : mx_I} {o n : Nat} {ch : Nat → Nat} (h : txN I o n ch) (e0 : I' o = I o) (e1 : I' (o + 1) = I (o + 1)) : txN I' o n ch := by
  obtain ⟨h1, h2, h3, h4⟩ := h
  exact ⟨h1, by rw [e0]; exact h2, fun s hs => by rw [e1]; exact h3 s hs, h4⟩
theorem cHi.k {G G' : mx_G} {I I' : mx_I} {a cnt : Nat} {hi : Nat → Vl} (h : cHi G I a cnt hi) (ha : a + 146 ≤ mx_sz G) (m : mx_sm G G') (hz : mx_sz G ≤ mx_sz G') (f : cFr a G I I') (hr : ∀ i, i < 14 → mx_rf G' (a + 49 + 5 * i) 6 = mx_rf G (a + 49 + 5 * i) 6) (e : ∀ b, a + 47 ≤ b → b < a + 119 → I' b = I b) : cHi G' I' a cnt hi := by
  obtain ⟨h1, nx, h2, h3, h4, h5⟩ := h
  refine ⟨h1, nx, h2, by rw [e _ (by omega) (by omega)]; exact h3, by rw [e _ (by omega) (by omega)]; exact h4, fun j hj => ?_⟩
  have hm : (nx + 14 - cnt + j) % 14 < 14 := Nat.mod_lt _ (by decide)
  exact (h5 j hj).k ha m hz f (hr _ hm) (fun b q1 q2 => e b (by omega) (by omega))
theorem cSl.k {G G' : mx_G} {I I' : mx_I} {a : Nat} {fl : Nat → Bool} {kp : Nat → Vl} (h : cSl G I a fl kp) (ha : a + 146 ≤ mx_sz G) (m : mx_sm G G') (hz : mx_sz G ≤ mx_sz G') (f : cFr a G I I') (hr : ∀ s, s < 2 → mx_rf G' (a + 120 + 5 * s) 6 = mx_rf G (a + 120 + 5 * s) 6) (e : ∀ b, a + 120 ≤ b → b < a + 131 → I' b = I b) : cSl G' I' a fl kp := by
  intro s hs
  obtain ⟨h1, h2⟩ := h s hs
  exact ⟨by rw [e _ (by omega) (by omega)]; exact h1, fun q => (h2 q).k ha m hz f (hr s hs) (fun b q1 q2 => e b (by omega) (by omega))⟩
/-- nothing of what it holds has changed -/
theorem cW.k {G G' : mx_G} {I I' : mx_I} {a : Nat} {z : Zs} (h : cW G I a z) (m : mx_sm G G') (hz : mx_sz G ≤ mx_sz G') (hr : ∀ o, (o = a + 37 ∨ (a + 47 ≤ o ∧ o < a + 131) ∨ o < a ∨ (a + 146 ≤ o ∧ o < mx_sz G)) → mx_rf G' o 6 = mx_rf G o 6)
    (e : ∀ b, (b < a + 8 ∨ (a + 12 ≤ b ∧ b < a + 17) ∨ (a + 37 ≤ b ∧ b < a + 42) ∨ (a + 47 ≤ b ∧ b < a + 131) ∨ a + 146 ≤ b) → b < mx_sz G → I' b = I b) : cP G I a z G' I' := by
  obtain ⟨h1, h2, h3, h4, h5⟩ := h
  have ha := h1.2.1
  have f : cFr a G I I' := fun b q1 q2 => e b (by omega) q2
  refine ⟨⟨h1.k m hz f, h2.k (e _ (by omega) (by omega)) (e _ (by omega) (by omega)), h3.k ha m hz f (hr _ (Or.inl rfl)) (fun b q1 q2 => e b (by omega) (by omega)), h4.k ha m hz f (fun i hi => hr _ (by omega)) (fun b q1 q2 => e b (by omega) (by omega)), h5.k ha m hz f (fun i hi => hr _ (by omega)) (fun b q1 q2 => e b (by omega) (by omega))⟩, m, hz, f, fun o q => hr o (by omega)⟩
theorem cW.scr {G : mx_G} {I I' : mx_I} {a lo hi : Nat} {z : Zs} (h : cW G I a z) (f : mx_fr I I' lo hi) (q : (a + 17 ≤ lo ∧ hi ≤ a + 37) ∨ (a + 42 ≤ lo ∧ hi ≤ a + 47) ∨ (a + 131 ≤ lo ∧ hi ≤ a + 146)) : cP G I a z G I' := h.k (mx_sm.rf G) (Nat.le_refl _) (fun _ _ => rfl) (fun b q1 _ => f b (by omega))
theorem cW.id {G : mx_G} {I : mx_I} {a : Nat} {z : Zs} (h : cW G I a z) : cP G I a z G I := ⟨h, mx_sm.rf G, Nat.le_refl _, cFr.rf a G I, rFr.rf a G⟩
theorem mx_sm.more (G : mx_G) (z : Nat) : mx_sm G (mx_more G z) := fun _ _ => ⟨rfl, rfl, fun _ _ _ => rfl⟩
/-- thrown: it holds what it held -/
theorem cP.thw {G G1 : mx_G} {I I1 : mx_I} {a f : Nat} {z : Zs} {E : String} {Gz : mx_G} {Iz : mx_I} (h : cP G I a z G1 I1) (t : mx_thw f G1 I1 E Gz Iz) : E = exN f ∧ cP G I a z Gz Iz := by
  obtain ⟨t1, ⟨y, t2, rfl⟩, rfl⟩ := t
  obtain ⟨h1, h2, h3, h4, h5⟩ := h
  have q := (h1.k (mx_sm.more G1 y) t2 (fun _ _ => rfl) (fun _ _ _ => rfl)).1
  exact ⟨t1, q, h2.tr (mx_sm.more G1 y), Nat.le_trans h3 t2, h4, h5⟩
theorem cP.tr {G G1 G2 : mx_G} {I I1 I2 : mx_I} {a : Nat} {z z1 : Zs} (h : cP G I a z1 G1 I1) (k : cP G1 I1 a z G2 I2) : cP G I a z G2 I2 := ⟨k.1, h.2.1.tr k.2.1, Nat.le_trans h.2.2.1 k.2.2.1, h.2.2.2.1.tr h.2.2.1 k.2.2.2.1, h.2.2.2.2.tr h.2.2.1 k.2.2.2.2⟩
theorem cW.env {G : mx_G} {I : mx_I} {a : Nat} {z : Zs} (h : cW G I a z) : env G I (a + 37) (mx_rf G (a + 37) 6) (zG z) (vA (zX z)) := ⟨h.1.1.2.2.2.2.1.2, h.2.2.1.2.2.2.2.1, rfl, h.2.2.1.1, h.2.2.1.2.2.2.2.2⟩
/-- the state has become another -/
theorem cW.st {G G' : mx_G} {I I' : mx_I} {a : Nat} {z : Zs} {x : Vl} (h : cW G I a z) (m : mx_sm G G') (hz : mx_sz G ≤ mx_sz G') (hr : ∀ o, ((a + 47 ≤ o ∧ o < a + 131) ∨ o < a ∨ (a + 146 ≤ o ∧ o < mx_sz G)) → mx_rf G' o 6 = mx_rf G o 6)
    (e : ∀ b, (b < a + 8 ∨ (a + 12 ≤ b ∧ b < a + 17) ∨ (a + 47 ≤ b ∧ b < a + 131) ∨ a + 146 ≤ b) → b < mx_sz G → I' b = I b) (hx : stP G' I' a (a + 37) x) : cP G I a (z.1, x, z.2.2) G' I' := by
  obtain ⟨h1, h2, h3, h4, h5⟩ := h
  have ha := h1.2.1
  have f : cFr a G I I' := fun b q1 q2 => e b (by omega) q2
  refine ⟨⟨h1.k m hz f, h2.k (e _ (by omega) (by omega)) (e _ (by omega) (by omega)), hx, h4.k ha m hz f (fun i hi => hr _ (by omega)) (fun b q1 q2 => e b (by omega) (by omega)), h5.k ha m hz f (fun i hi => hr _ (by omega)) (fun b q1 q2 => e b (by omega) (by omega))⟩, m, hz, f, fun o q => hr o (by omega)⟩
/-- only the state's ints have changed -/
theorem cW.stI {G : mx_G} {I I' : mx_I} {a : Nat} {z : Zs} {v : Gr} (h : cW G I a z) (f : mx_fr I I' (a + 37) (a + 42)) (hv : stN I' (a + 37) v) (h24 : gN v ≤ 24) : cP G I a (z.1, (v, (zX z).2), z.2.2) G I' := by
  refine h.st (mx_sm.rf G) (Nat.le_refl _) (fun _ _ => rfl) (fun b q1 _ => f b (by omega)) ⟨hv, ⟨h24, h.2.2.1.2.1.2⟩, ?_⟩
  have ha := h.1.2.1
  exact ptO.k (x := zX z) h.2.2.1.2.2 ha (mx_sm.rf G) (Nat.le_refl _) (fun b q1 q2 => f b (by omega))
