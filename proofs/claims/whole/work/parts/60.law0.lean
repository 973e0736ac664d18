/-! THE LAW: reading the script, catching, both worlds beside each other -/
section MXL
variable {M : mx_MI} {S : mx_Sc} {d bc bs pc : Nat} {ls : List (Option Value)} {st : List Value} {G : mx_G} {I : mx_I} {Q : Option Value → mx_G → mx_I → Prop} {X : String → mx_G → mx_I → Prop}
theorem mx_scld {i : Int32} (j : Nat) (hS : mx_hS S) (hd : decode (mx_cc M) pc = .ok (.iaload, 1)) (hi : mx_ix i j S.2.1) (kk : mx_V M S d bc bs (pc + 1) ls (.int (S.2.2 j) :: st) G I Q X) : mx_V M S d bc bs pc ls (.int i :: .ref S.1 :: st) G I Q X := by
  intro p l e R s m args below meth c mc ms base D dA hF H locs cells slots lsA hM
  have k1 := kk p l e R s m args below meth c mc ms base D dA hF H locs cells slots lsA hM
  obtain ⟨hx, hb, hml, hrt, hown, hts, hlocks, htab, hini, hfl, hRf, hRl, hmc, hms, hbase, hKK⟩ := hF
  rcases hM.2.2.2.2.2 with h6 | ⟨⟨scr, h1, h2, h3, h4, h5⟩, h7⟩
  · exact absurd h6 hS
  · refine W.iald (v := .int (S.2.2 j)) hx hb h1 h2 h3 (by rw [h4]; exact hi.in) ?_ rfl rfl hd k1
    rw [hi.at]
    exact h5 j hi.2.1
theorem mx_sclen (hS : mx_hS S) (hd : decode (mx_cc M) pc = .ok (.arraylength, 1)) (kk : mx_V M S d bc bs (pc + 1) ls (.int (nI S.2.1) :: st) G I Q X) : mx_V M S d bc bs pc ls (.ref S.1 :: st) G I Q X := by
  intro p l e R s m args below meth c mc ms base D dA hF H locs cells slots lsA hM
  have k1 := kk p l e R s m args below meth c mc ms base D dA hF H locs cells slots lsA hM
  obtain ⟨hx, hb, hml, hrt, hown, hts, hlocks, htab, hini, hfl, hRf, hRl, hmc, hms, hbase, hKK⟩ := hF
  rcases hM.2.2.2.2.2 with h6 | ⟨⟨scr, h1, h2, h3, h4, h5⟩, h7⟩
  · exact absurd h6 hS
  · exact W.alen (n := Int32.ofNat S.2.1) hx hb h1 h2 (by rw [h4] <;> rfl) rfl rfl hd k1
abbrev mx_et (q : Nat × Nat × Nat × Nat) : ExceptionTableEntry := ⟨q.1, q.2.1, q.2.2.1, q.2.2.2⟩
/-- caught by the row h of the method's table; the rows ahead are for others of the three -/
theorem mx_hdl {E : String} {h : Nat × Nat × Nat × Nat} (pre suf : List (Nat × Nat × Nat × Nat)) (hsplit : mx_hh M = pre ++ h :: suf) (hE : E ∈ mx_exs) (hpass : ∀ z ∈ pre, z.2.2.2 ≠ 0 ∧ ∃ nm, Cond.classLink (mx_own M) z.2.2.2 nm ∈ mx_AW ∧ nm ∈ mx_exs ∧ E ≠ nm)
    (hx : h.1 ≤ pc ∧ pc < h.2.1) (h0 : h.2.2.2 ≠ 0) (hlink : Cond.classLink (mx_own M) h.2.2.2 E ∈ mx_AW) (kk : ∀ q : Nat, mx_V M S d bc bs h.2.2.1 ls [.ref q] G I Q X) : mx_VX M S d bc bs pc ls st E G I Q X := by
  intro p l e R s m args below meth c mc ms base D dA hF H locs cells slots lsA hM q ce h1 h2 h3
  have k1 := kk q p l e R s m args below meth c mc ms base D dA hF H locs cells slots lsA hM
  obtain ⟨hx9, hb, hml, hrt, hown, hts, hlocks, htab, hini, hfl, hRf, hRl, hmc, hms, hbase, hKK⟩ := hF
  have hcast : (Cond.castable E E).before args s = true := by
    have h4 : ∀ w ∈ mx_EW, va_Nw w s := hKK.2.2.2.2.2.2.2.2.1.2.2
    unfold mx_exs at hE
    simp only [List.mem_cons, List.not_mem_nil, or_false] at hE
    rcases hE with rfl | rfl | rfl
    · exact va_Nw.use rfl (h4 _ (by unfold mx_EW; simp))
    · exact va_Nw.use rfl (h4 _ (by unfold mx_EW; simp))
    · exact va_Nw.use rfl (h4 _ (by unfold mx_EW; simp))
  have hNc : ∀ F ∈ mx_exs, E ≠ F → va_Nc E F s := fun F hF hne => hKK.2.2.2.2.2.2.2.1 E hE F hF hne
  have hpass2 : ∀ z ∈ pre.map mx_et, covers z pc = false ∨ (z.catchType ≠ 0 ∧ ∃ nm : String, (Cond.classLink (mx_own M) z.catchType nm).before args s = true ∧ va_Nc E nm s) := fun z hz => by
    obtain ⟨z', hz1, rfl⟩ := List.mem_map.mp hz
    obtain ⟨n1, nm, n2, n3, n4⟩ := hpass z' hz1
    exact Or.inr ⟨n1, nm, hts _ n2, hNc nm n3 n4⟩
  have hcov : covers (mx_et h) pc = true := by
    show (decide (h.1 ≤ pc) && decide (pc < h.2.1)) = true
    rw [decide_eq_true hx.1, decide_eq_true hx.2]
    rfl
  have hsp : c.exceptionTable.toList = pre.map mx_et ++ mx_et h :: suf.map mx_et := by
    rw [htab, hsplit]
    show (pre ++ h :: suf).map mx_et = _
    rw [List.map_append, List.map_cons]
  exact vx_catch (own := mx_own M) (name := E) (E := E) hown (pre.map mx_et) (mx_et h) (suf.map mx_et) hsp hpass2 hcov h0 (hts _ hlink) hcast h1 h2 h3 k1
end MXL
/-! both worlds -/
/-- the class's world is kept by what changes only cells that are no pattern's and not its own -/
theorem cW.ap {G : mx_G} {I I' : mx_I} {a : Nat} {z : Zs} (h : cW G I a z) (e1 : ∀ b, b < a + 146 → I' b = I b) (e2 : ∀ r, oPT G r → a + 146 ≤ r → ∀ b, r ≤ b → b < r + 5 → I' b = I b) : cW G I' a z := by
  obtain ⟨⟨p1, p2, p3⟩, h2, h3, ⟨q1, nx, q2, q3, q4, q5⟩, h5⟩ := h
  have kp : ∀ r x, ptO G I a r x → ptO G I' a r x := fun r x ⟨w1, w2, w3, w4⟩ => ⟨w1, w2, w3, w4.k (fun b b1 b2 => by
    rcases w1 with w1 | w1
    · exact e1 b (by omega)
    · exact e2 r w3 w1 b b1 b2)⟩
  have ks : ∀ o x, o + 5 ≤ a + 146 → stP G I a o x → stP G I' a o x := fun o x ho ⟨w1, w2, w3⟩ => ⟨w1.k (fun b b1 b2 => e1 b (by omega)), w2, kp _ _ w3⟩
  refine ⟨⟨p1, p2, fun ch => (p3 ch).k (fun b b1 b2 => e1 b (by omega))⟩, h2.k (e1 _ (by omega)) (e1 _ (by omega)), ks _ _ (by omega) h3, ⟨q1, nx, q2, ?_, ?_, fun j hj => ?_⟩, fun s hs => ⟨?_, fun w => ks _ _ (by omega) ((h5 s hs).2 w)⟩⟩
  · rw [e1 _ (by omega)]; exact q3
  · rw [e1 _ (by omega)]; exact q4
  · have hm : (nx + 14 - zC z + j) % 14 < 14 := Nat.mod_lt _ (by decide)
    exact ks _ _ (by omega) (q5 j hj)
  · rw [e1 _ (by omega)]; exact (h5 s hs).1
/-- a pattern lies apart from the reference -/
theorem pt_ap {G : mx_G} {m r : Nat} (hm : oMD G m) (hp : oPT G r) : ∀ b, r ≤ b → b < r + 5 → b < m ∨ m + 23 ≤ b := by
  obtain ⟨t0, ⟨-, t1, -⟩, ⟨-, t2, -⟩, ⟨-, t3, -⟩, ⟨-, t4, -⟩, ⟨-, t5, -⟩, ⟨-, t6, -⟩, ⟨-, t7, -⟩, ⟨-, t8, -⟩, ⟨-, t9, -⟩, ⟨-, t10, -⟩, ⟨-, t11, -⟩, ⟨-, t12, -⟩, ⟨-, t13, -⟩, ⟨-, t14, -⟩, ⟨-, t15, -⟩, ⟨-, t16, -⟩, ⟨-, t17, -⟩, ⟨-, t18, -⟩, ⟨-, t19, -⟩, ⟨-, t20, -⟩, ⟨-, t21, -⟩, ⟨-, t22, -⟩⟩ := hm
  obtain ⟨s0, ⟨-, s1, -⟩, ⟨-, s2, -⟩, ⟨-, s3, -⟩, ⟨-, s4, -⟩⟩ := hp
  have key : ∀ i, i < 23 → ¬ r = m + i := fun i hi e => by
    rw [e] at s0
    have : i = 0 ∨ i = 1 ∨ i = 2 ∨ i = 3 ∨ i = 4 ∨ i = 5 ∨ i = 6 ∨ i = 7 ∨ i = 8 ∨ i = 9 ∨ i = 10 ∨ i = 11 ∨ i = 12 ∨ i = 13 ∨ i = 14 ∨ i = 15 ∨ i = 16 ∨ i = 17 ∨ i = 18 ∨ i = 19 ∨ i = 20 ∨ i = 21 ∨ i = 22 := by omega
    rcases this with rfl | rfl | rfl | rfl | rfl | rfl | rfl | rfl | rfl | rfl | rfl | rfl | rfl | rfl | rfl | rfl | rfl | rfl | rfl | rfl | rfl | rfl | rfl
    · rw [Nat.add_zero, t0] at s0; cases s0
    · rw [t1] at s0; cases s0
    · rw [t2] at s0; cases s0
    · rw [t3] at s0; cases s0
    · rw [t4] at s0; cases s0
    · rw [t5] at s0; cases s0
    · rw [t6] at s0; cases s0
    · rw [t7] at s0; cases s0
    · rw [t8] at s0; cases s0
    · rw [t9] at s0; cases s0
    · rw [t10] at s0; cases s0
    · rw [t11] at s0; cases s0
    · rw [t12] at s0; cases s0
    · rw [t13] at s0; cases s0
    · rw [t14] at s0; cases s0
    · rw [t15] at s0; cases s0
    · rw [t16] at s0; cases s0
    · rw [t17] at s0; cases s0
    · rw [t18] at s0; cases s0
    · rw [t19] at s0; cases s0
    · rw [t20] at s0; cases s0
    · rw [t21] at s0; cases s0
    · rw [t22] at s0; cases s0
  have k2 : ∀ i, i < 5 → ¬ m = r + i := fun i hi e => by
    rw [e] at t0
    have : i = 0 ∨ i = 1 ∨ i = 2 ∨ i = 3 ∨ i = 4 := by omega
    rcases this with rfl | rfl | rfl | rfl | rfl
    · rw [Nat.add_zero, s0] at t0; cases t0
    · rw [s1] at t0; cases t0
    · rw [s2] at t0; cases t0
    · rw [s3] at t0; cases t0
    · rw [s4] at t0; cases t0
  clear t0 t1 t2 t3 t4 t5 t6 t7 t8 t9 t10 t11 t12 t13 t14 t15 t16 t17 t18 t19 t20 t21 t22 s0 s1 s2 s3 s4
  intro b h1 h2
  rcases Nat.lt_or_ge b m with q | q
  · exact Or.inl q
  · rcases Nat.lt_or_ge b (m + 23) with q2 | q2
    · exfalso
      rcases Nat.lt_or_ge r m with q3 | q3
      · exact k2 (m - r) (by omega) (by omega)
      · exact key (r - m) (by omega) (by omega)
    · exact Or.inr q2
theorem cW.md {G : mx_G} {I I' : mx_I} {a m : Nat} {z : Zs} (h : cW G I a z) (hm : oMD G m) (ham : a + 146 ≤ m) (f : mx_fr I I' m (m + 23)) : cW G I' a z :=
  h.ap (fun b hb => f b (by omega)) (fun r hr _ b b1 b2 => f b (pt_ap hm hr b b1 b2))
theorem oMD.sm {G G' : mx_G} {m : Nat} (h : oMD G m) (k : mx_sm G G') : oMD G' m := by
  have ta : mx_tg G m = 20 := h.1
  have ne : mx_tg G m ≠ 0 := by rw [ta]; decide
  have rf : ∀ j r, mx_rf G m j = r → mx_rf G' m j = r := fun j r e => ((k m ne).2.2 j (fun q => by rw [ta] at q; cases q.1) (fun q => by rw [ta] at q; cases q.1)).trans e
  have tg : ∀ o t, mx_tg G o = t → t ≠ 0 → mx_tg G' o = t := fun o t e h0 => ((k o (by rw [e]; exact h0)).1).trans e
  have ln : ∀ o t n, mx_tg G o = t → t ≠ 0 → mx_ln G o = n → mx_ln G' o = n := fun o t n e h0 e2 => ((k o (by rw [e]; exact h0)).2.1).trans e2
  have a3 : ∀ j o t n, t ≠ 0 → (mx_rf G m j = m + o ∧ mx_tg G (m + o) = t ∧ mx_ln G (m + o) = n) → (mx_rf G' m j = m + o ∧ mx_tg G' (m + o) = t ∧ mx_ln G' (m + o) = n) := fun j o t n h0 ⟨e1, e2, e3⟩ => ⟨rf _ _ e1, tg _ _ e2 h0, ln _ _ _ e2 h0 e3⟩
  obtain ⟨t0, h1, h2, h3, h4, h5, h6, h7, h8, h9, h10, h11, h12, h13, h14, h15, h16, h17, h18, h19, h20, h21, h22⟩ := h
  exact ⟨tg _ _ t0 (by decide), a3 _ _ _ _ (by decide) h1, a3 _ _ _ _ (by decide) h2, a3 _ _ _ _ (by decide) h3, a3 _ _ _ _ (by decide) h4, a3 _ _ _ _ (by decide) h5, a3 _ _ _ _ (by decide) h6, a3 _ _ _ _ (by decide) h7, a3 _ _ _ _ (by decide) h8, a3 _ _ _ _ (by decide) h9, a3 _ _ _ _ (by decide) h10, a3 _ _ _ _ (by decide) h11, a3 _ _ _ _ (by decide) h12, a3 _ _ _ _ (by decide) h13, a3 _ _ _ _ (by decide) h14, a3 _ _ _ _ (by decide) h15, a3 _ _ _ _ (by decide) h16, a3 _ _ _ _ (by decide) h17, a3 _ _ _ _ (by decide) h18, a3 _ _ _ _ (by decide) h19, a3 _ _ _ _ (by decide) h20, a3 _ _ _ _ (by decide) h21, a3 _ _ _ _ (by decide) h22⟩
theorem mW.sm {G G' : mx_G} {I I' : mx_I} {a m : Nat} {z z' : Zs} (h : mW G I m z) (ham : a + 146 ≤ m) (k : cP G I a z' G' I') : mW G' I' m z := by
  obtain ⟨h1, h2, h3⟩ := h
  have h4 : mW G I' m z := mW.k ⟨h1, h2, h3⟩ (fun b j q => congrFun (k.2.2.2 b (by omega) (by omega)) j)
  obtain ⟨g1, g2, g3⟩ := h4
  exact ⟨g1.sm k.2.1, Nat.le_trans g2 k.2.2.1, g3⟩
