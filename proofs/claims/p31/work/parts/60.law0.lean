/-! THE LAW: reading the script, catching, two objects beside each other -/
section MXL
variable {M : mx_MI} {S : mx_Sc} {d bc bs pc : Nat} {ls : List (Option Value)} {st : List Value} {G : mx_G} {I : mx_I} {Q : Option Value → mx_G → mx_I → Prop} {X : String → mx_G → mx_I → Prop}
theorem mx_scld {i : Int32} (j : Nat) (hS : mx_hS S) (hd : decode (mx_cc M) pc = .ok (.iaload, 1)) (hi : mx_ix i j S.2.1) (kk : mx_V M S d bc bs (pc + 1) ls (.int (S.2.2 j) :: st) G I Q X) : mx_V M S d bc bs pc ls (.int i :: .ref S.1 :: st) G I Q X := by
  intro p l e R s m args below meth c mc ms base D dA hF H locs cells slots lsA hM
  have k1 := kk p l e R s m args below meth c mc ms base D dA hF H locs cells slots lsA hM
  obtain ⟨hx, hb, hml, hrt, hown, hts, hlocks, htab, hini, hfl, hRf, hRl, hmc, hms, hbase, hKK⟩ := hF
  rcases hM.2.2.2.2.2 with h6 | ⟨⟨scr, h1, h2, h3, h4, h5⟩, h7⟩
  · exact absurd h6 hS
  · refine W.iald (v := .int (S.2.2 j)) hx hb h1 h2 h3 (by rw [h4]; exact hi.in) ?_ rfl rfl hd k1
    rw [hi.at]
    exact h5 j hi.2.1
theorem mx_sclen (hS : mx_hS S) (hd : decode (mx_cc M) pc = .ok (.arraylength, 1)) (kk : mx_V M S d bc bs (pc + 1) ls (.int (nI S.2.1) :: st) G I Q X) : mx_V M S d bc bs pc ls (.ref S.1 :: st) G I Q X := by
  intro p l e R s m args below meth c mc ms base D dA hF H locs cells slots lsA hM
  have k1 := kk p l e R s m args below meth c mc ms base D dA hF H locs cells slots lsA hM
  obtain ⟨hx, hb, hml, hrt, hown, hts, hlocks, htab, hini, hfl, hRf, hRl, hmc, hms, hbase, hKK⟩ := hF
  rcases hM.2.2.2.2.2 with h6 | ⟨⟨scr, h1, h2, h3, h4, h5⟩, h7⟩
  · exact absurd h6 hS
  · exact W.alen (n := Int32.ofNat S.2.1) hx hb h1 h2 (by rw [h4] <;> rfl) rfl rfl hd k1
abbrev mx_et (q : Nat × Nat × Nat × Nat) : ExceptionTableEntry := ⟨q.1, q.2.1, q.2.2.1, q.2.2.2⟩
/-- caught by the row h of the method's table; the rows ahead are for others of the three -/
theorem mx_hdl {E : String} {h : Nat × Nat × Nat × Nat} (pre suf : List (Nat × Nat × Nat × Nat)) (hsplit : mx_hh M = pre ++ h :: suf) (hE : E ∈ mx_exs) (hpass : ∀ z ∈ pre, z.2.2.2 ≠ 0 ∧ ∃ nm, Cond.classLink (mx_own M) z.2.2.2 nm ∈ mx_AW ∧ nm ∈ mx_exs ∧ E ≠ nm)
    (hx : h.1 ≤ pc ∧ pc < h.2.1) (h0 : h.2.2.2 ≠ 0) (hlink : Cond.classLink (mx_own M) h.2.2.2 E ∈ mx_AW) (kk : ∀ q : Nat, mx_V M S d bc bs h.2.2.1 ls [.ref q] G I Q X) : mx_VX M S d bc bs pc ls st E G I Q X := by
  intro p l e R s m args below meth c mc ms base D dA hF H locs cells slots lsA hM q ce h1 h2 h3
  have k1 := kk q p l e R s m args below meth c mc ms base D dA hF H locs cells slots lsA hM
  obtain ⟨hx9, hb, hml, hrt, hown, hts, hlocks, htab, hini, hfl, hRf, hRl, hmc, hms, hbase, hKK⟩ := hF
  have hcast : (Cond.castable E E).before args s = true := by
    have h4 : ∀ w ∈ mx_EW, va_Nw w s := hKK.2.2.2.2.2.2.2.2.1.2.2
    unfold mx_exs at hE
    simp only [List.mem_cons, List.not_mem_nil, or_false] at hE
    rcases hE with rfl | rfl | rfl
    · exact va_Nw.use rfl (h4 _ (by unfold mx_EW; simp))
    · exact va_Nw.use rfl (h4 _ (by unfold mx_EW; simp))
    · exact va_Nw.use rfl (h4 _ (by unfold mx_EW; simp))
  have hNc : ∀ F ∈ mx_exs, E ≠ F → va_Nc E F s := fun F hF hne => hKK.2.2.2.2.2.2.2.1 E hE F hF hne
  have hpass2 : ∀ z ∈ pre.map mx_et, covers z pc = false ∨ (z.catchType ≠ 0 ∧ ∃ nm : String, (Cond.classLink (mx_own M) z.catchType nm).before args s = true ∧ va_Nc E nm s) := fun z hz => by
    obtain ⟨z', hz1, rfl⟩ := List.mem_map.mp hz
    obtain ⟨n1, nm, n2, n3, n4⟩ := hpass z' hz1
    exact Or.inr ⟨n1, nm, hts _ n2, hNc nm n3 n4⟩
  have hcov : covers (mx_et h) pc = true := by
    show (decide (h.1 ≤ pc) && decide (pc < h.2.1)) = true
    rw [decide_eq_true hx.1, decide_eq_true hx.2]
    rfl
  have hsp : c.exceptionTable.toList = pre.map mx_et ++ mx_et h :: suf.map mx_et := by
    rw [htab, hsplit]
    show (pre ++ h :: suf).map mx_et = _
    rw [List.map_append, List.map_cons]
  exact vx_catch (own := mx_own M) (name := E) (E := E) hown (pre.map mx_et) (mx_et h) (suf.map mx_et) hsp hpass2 hcov h0 (hts _ hlink) hcast h1 h2 h3 k1
/-- the contract of a method that the script is given to -/
def mx_CTs (S : mx_Sc) (y : MethodName) (M : mx_MI) (d bc bs : Nat) (av : List Value) (G : mx_G) (I : mx_I) (Q : Option Value → mx_G → mx_I → Prop) (X : String → mx_G → mx_I → Prop) : Prop :=
  ∀ (l : Launch) (base : Nat) (D : va_G) (dA : Nat → ClassId), l.flags = flags0 → vx_Met l y (mx_ws y M) (mx_rm d bc bs) (fun a U => mx_Pc av G I base D dA a U ∧ mx_sc S base U U.heap) (mx_Qc Q base D dA) (mx_Xc X base D dA) bc bs (fun q => base ≤ q)
theorem mx_startS {y : MethodName} {av : List Value} {k : Nat} (hy : plainName y.cls = true) (hoy : y.cls = mx_own M) (hhh : mx_hh M = []) (hini : mx_ini M = true → y.name = "<init>") (hlen : (lg_sl av).length ≤ mx_mL M) (kk : mx_V M S d bc bs 0 (mx_fl av ++ List.replicate k none) [] G I Q X) : mx_CTs S y M d bc bs av G I Q X := by
  intro l base D dA hfl
  have hcw : mx_ws y M = Cond.code y (mx_cc M) (mx_mL M) (mx_rt M) :: mx_AW := by unfold mx_ws mx_cw; rw [hhh]
  refine vx_ofW (cc := mx_cc M) (maxL := mx_mL M) (ret := mx_rt M) hy hcw ?_
  intro p e s m args below meth c s₁ B hml htab hv
  obtain ⟨⟨rfl, hRep, hKK⟩, hsc⟩ := hv
  have hts := atoms_spec (ws := mx_ws y M) B.pre
  have hown : s.vm.findClass y.cls = some m.cls := findClass_of_methodNamed B.named
  have hname : meth.name = y.name := (name_of_methodNamed B.named B.method).1
  have htab0 : c.exceptionTable.toList = tableOf (mx_hh M) := by
    rw [hhh]
    exact List.eq_nil_iff_forall_not_mem.mpr htab
  rw [lg_entry_eq]
  exact kk p l e _ s m av.toArray below meth c bc bs base D dA ⟨B.exec, B.bytes, hml, B.returns, by rw [← hoy]; exact hown, fun w hw => hts w (List.mem_cons_of_mem _ hw), B.notSynchronized, htab0, fun h => by rw [hname]; exact hini h, hfl, Nat.le_refl _, Nat.le_refl _, Nat.le_refl _, Nat.le_refl _, by rw [hRep.1]; exact hRep.2.1, hKK⟩
    s.heap [] 0 0 _ ⟨hRep, va_S.rf, by omega, by omega, mx_ent hlen, hsc⟩
theorem mx_blindS (S : mx_Sc) (av : List Value) (G : mx_G) (I : mx_I) (base : Nat) (D : va_G) (dA : Nat → ClassId) : FrameBlind (fun a U => mx_Pc av G I base D dA a U ∧ mx_sc S base U U.heap) := by
  intro a U g mk ⟨⟨h1, h2, h3⟩, h4⟩
  refine ⟨⟨h1, h2, h3.go (U := U.calling g mk a) (State.WarmedH.refl U) (fun _ _ _ => rfl)⟩, ?_⟩
  rcases h4 with h4 | ⟨h4, h5⟩
  · exact Or.inl h4
  · exact Or.inr ⟨(h4.moved (State.WarmedH.refl U).alike : va_X S.1 S.2.1 S.2.2 (U.calling g mk a) U.heap), h5⟩
theorem mx_callSs {y : MethodName} {M' : mx_MI} {d' b1 b2 idx n : Nat} {As rest stk : List Value} {Q' : Option Value → mx_G → mx_I → Prop} {X' : String → mx_G → mx_I → Prop} (hd : decode (mx_cc M) pc = .ok (.invokestatic idx, 3)) (hc : mx_CTs S y M' d' b1 b2 As G I Q' X') (hk : mx_kM y M' n) (hhh : mx_hh M' = []) (h1 : Cond.methodLink (mx_own M) idx y ∈ mx_AW) (h2 : Cond.static y ∈ mx_AW)
    (hst : stk = As.reverse ++ rest) (hn : As.length = n) (hW : (rest.map fun v => v.category).sum ≤ 8) (hdd : d' + 1 ≤ d)
    (kx : ∀ E G' I', X' E G' I' → mx_VX M S d bc bs pc ls rest E G' I' Q X) (kk : ∀ v G' I', Q' v G' I' → mx_V M S d bc bs (pc + 3) ls (v.toList ++ rest) G' I' Q X) : mx_V M S d (bc + b1) (bs + b2) pc ls stk G I Q X := by
  subst hst
  refine mx_callK (av := As.toArray) (Q' := Q') (X' := X') ?_ kx kk
  intro p l e R s m args below meth c mc ms base D dA hF H locs cells slots lsA hM
  obtain ⟨hx, hb, hml, hrt, hown, hts, hlocks, htab, hini, hfl, hRf, hRl, hmc, hms, hbase, hKK⟩ := hF
  have hb1 := hM.2.2.1
  have hb2 := hM.2.2.2.1
  exact vx_runS ⟨hx, hb, hml, hown, hts⟩ (hc l base D dA hfl) ⟨callB_of n hts (mx_good y M' hk.1) (by unfold mx_ws mx_cw; rw [hhh]) rfl rfl (hts _ hk.2.1) (hts _ h1) hk.2.2.1 (mx_rmB hRf hRl hdd hk.2.2.2), hts _ h2⟩
    ⟨mx_blindS _ _ _ _ _ _ _, fun U hU hW => ⟨mx_pre hM hKK hU hW, by
      rcases hM.2.2.2.2.2 with h6 | ⟨h6, h7⟩
      · exact Or.inl h6
      · rw [hU]; exact Or.inr ⟨h6.moved hW.alike, h7⟩⟩⟩ rfl hn hM.2.2.2.2.1.1 rfl (lv_room hW) hd ⟨by omega, by omega⟩
end MXL
/-! two objects -/
/-- the world is kept by what changes only cells that are no pattern's and not its own -/
theorem cW.ap {G : mx_G} {I I' : mx_I} {a : Nat} {z : Zs} (h : cW G I a z) (e1 : ∀ b, a ≤ b → b < a + 146 → I' b = I b) (e2 : ∀ r, oPT G r → r + 5 ≤ mx_sz G → ∀ b, r ≤ b → b < r + 5 → I' b = I b) : cW G I' a z := by
  obtain ⟨⟨p1, p2, p3⟩, h2, h3, ⟨q1, nx, q2, q3, q4, q5⟩, h5⟩ := h
  have kp : ∀ r x, ptO G I a r x → ptO G I' a r x := fun r x ⟨w1, w2, w3, w4⟩ => ⟨w1, w2, w3, w4.k (fun b b1 b2 => e2 r w3 w2 b b1 b2)⟩
  have ks : ∀ o x, a ≤ o → o + 5 ≤ a + 146 → stP G I a o x → stP G I' a o x := fun o x ha ho ⟨w1, w2, w3⟩ => ⟨w1.k (fun b b1 b2 => e1 b (by omega) (by omega)), w2, kp _ _ w3⟩
  refine ⟨⟨p1, p2, fun ch => (p3 ch).k (fun b b1 b2 => e1 b (by omega) (by omega))⟩, h2.k (e1 _ (by omega) (by omega)) (e1 _ (by omega) (by omega)), ks _ _ (by omega) (by omega) h3, ⟨q1, nx, q2, ?_, ?_, fun j hj => ?_⟩, fun s hs => ⟨?_, fun w => ks _ _ (by omega) (by omega) ((h5 s hs).2 w)⟩⟩
  · rw [e1 _ (by omega) (by omega)]; exact q3
  · rw [e1 _ (by omega) (by omega)]; exact q4
  · have hm : (nx + 14 - zC z + j) % 14 < 14 := Nat.mod_lt _ (by decide)
    exact ks _ _ (by omega) (by omega) (q5 j hj)
  · rw [e1 _ (by omega) (by omega)]; exact (h5 s hs).1
theorem cW.gk {G G' : mx_G} {I : mx_I} {a : Nat} {z : Zs} (h : cW G I a z) (m : mx_sm G G') (hz : mx_sz G ≤ mx_sz G') (hr : ∀ o, (o = a + 37 ∨ (a + 47 ≤ o ∧ o < a + 131)) → mx_rf G' o 6 = mx_rf G o 6) : cW G' I a z := by
  obtain ⟨h1, h2, h3, h4, h5⟩ := h
  have ha := h1.2.1
  have f : cFr a G I I := cFr.rf a G I
  exact ⟨h1.k m hz f, h2, h3.k ha m hz f (hr _ (Or.inl rfl)) (fun _ _ _ => rfl), h4.k ha m hz f (fun i hi => hr _ (by omega)) (fun _ _ _ => rfl), h5.k ha m hz f (fun i hi => hr _ (by omega)) (fun _ _ _ => rfl)⟩
/-- what an object is made of is no pattern, but for its two -/
theorem oSP_no {G : mx_G} {a : Nat} (h : oSP G a) : ∀ j, j < 146 → ¬ j = 3 → ¬ (12 ≤ j ∧ j < 17) → mx_tg G (a + j) ≠ 12 := by
  obtain ⟨h0, ⟨-, o0⟩, ⟨-, o1⟩, ⟨-, o2⟩, ⟨-, o3⟩, ⟨-, o4⟩, ⟨-, o5⟩, ⟨-, t6, -, ⟨-, q0⟩, ⟨-, q1⟩⟩, ⟨-, t7, -⟩, ⟨-, o8⟩, ⟨-, o9⟩, ⟨-, o10⟩⟩ := h
  have st : ∀ o, oST G o → ∀ i, i < 5 → mx_tg G (o + i) ≠ 12 := fun o ho i hi => by
    obtain ⟨s0, ⟨-, s1, -⟩, ⟨-, s2, -⟩, ⟨-, s3, -⟩, ⟨-, s4, -⟩⟩ := ho
    rcases (show i = 0 ∨ i = 1 ∨ i = 2 ∨ i = 3 ∨ i = 4 by omega) with rfl | rfl | rfl | rfl | rfl
    · rw [Nat.add_zero, s0]; decide
    · rw [s1]; decide
    · rw [s2]; decide
    · rw [s3]; decide
    · rw [s4]; decide
  have wh : ∀ o, oWH G o → ∀ i, i < 2 → mx_tg G (o + i) ≠ 12 := fun o ho i hi => by
    obtain ⟨s0, -, s1, -⟩ := ho
    rcases (show i = 0 ∨ i = 1 by omega) with rfl | rfl
    · rw [Nat.add_zero, s0]; decide
    · rw [s1]; decide
  have se : ∀ o, oSE G o → ∀ i, i < 5 → mx_tg G (o + i) ≠ 12 := fun o ho i hi => by
    obtain ⟨s0, ⟨-, s1, -⟩, ⟨-, s2, -⟩, -, s3⟩ := ho
    rcases (show i = 0 ∨ i = 1 ∨ i = 2 ∨ i = 3 ∨ i = 4 by omega) with rfl | rfl | rfl | rfl | rfl
    · rw [Nat.add_zero, s0]; decide
    · rw [s1]; decide
    · rw [s2]; decide
    · exact wh _ s3 0 (by decide)
    · exact wh _ s3 1 (by decide)
  have bp : ∀ i, i < 5 → mx_tg G (a + 141 + i) ≠ 12 := fun i hi => by
    obtain ⟨s0, ⟨-, s1, -⟩, ⟨-, s2, -⟩, -, s3⟩ := o10
    rcases (show i = 0 ∨ i = 1 ∨ i = 2 ∨ i = 3 ∨ i = 4 by omega) with rfl | rfl | rfl | rfl | rfl
    · rw [Nat.add_zero, s0]; decide
    · rw [s1]; decide
    · rw [s2]; decide
    · exact wh _ s3 0 (by decide)
    · exact wh _ s3 1 (by decide)
  have pt : ∀ i, 1 ≤ i → i < 5 → mx_tg G (a + 3 + i) ≠ 12 := fun i hi1 hi => by
    obtain ⟨-, ⟨-, s1, -⟩, ⟨-, s2, -⟩, ⟨-, s3, -⟩, ⟨-, s4, -⟩⟩ := o1
    rcases (show i = 1 ∨ i = 2 ∨ i = 3 ∨ i = 4 by omega) with rfl | rfl | rfl | rfl
    · rw [s1]; decide
    · rw [s2]; decide
    · rw [s3]; decide
    · rw [s4]; decide
  have rd : ∀ j, 8 ≤ j → j < 37 → ¬ (12 ≤ j ∧ j < 17) → mx_tg G (a + j) ≠ 12 := fun j hj1 hj2 hj3 => by
    obtain ⟨s0, ⟨-, s1, -⟩, ⟨-, s2, -⟩, ⟨-, s3⟩, s4⟩ := o2
    rcases (show j = 8 ∨ j = 9 ∨ j = 10 ∨ j = 11 ∨ 17 ≤ j by omega) with rfl | rfl | rfl | rfl | h17
    · rw [s0]; decide
    · rw [show a + 9 = a + 8 + 1 by omega, s1]; decide
    · rw [show a + 10 = a + 8 + 2 by omega, s2]; decide
    · rw [show a + 11 = a + 8 + 3 by omega, s3]; decide
    · obtain ⟨⟨-, u1⟩, ⟨-, u2⟩⟩ := s4 ((j - 17) / 2) (by omega)
      rcases (show a + j = a + 8 + 9 + 2 * ((j - 17) / 2) ∨ a + j = a + 8 + 10 + 2 * ((j - 17) / 2) by omega) with e | e
      · rw [e, u1]; decide
      · rw [e, u2]; decide
  intro j hj h3 h12
  rcases (show j = 0 ∨ j = 1 ∨ j = 2 ∨ (4 ≤ j ∧ j < 8) ∨ (8 ≤ j ∧ j < 37) ∨ (37 ≤ j ∧ j < 42) ∨ (42 ≤ j ∧ j < 47) ∨ j = 47 ∨ j = 48 ∨ (49 ≤ j ∧ j < 119) ∨ j = 119 ∨ (120 ≤ j ∧ j < 125) ∨ (125 ≤ j ∧ j < 130) ∨ j = 130 ∨ (131 ≤ j ∧ j < 136) ∨ (136 ≤ j ∧ j < 141) ∨ 141 ≤ j by omega) with rfl | rfl | rfl | c | c | c | c | rfl | rfl | c | rfl | c | c | rfl | c | c | c
  · rw [Nat.add_zero, h0]; decide
  · rw [o0.1]; decide
  · rw [show a + 2 = a + 1 + 1 by omega, o0.2.2.1]; decide
  · rw [show a + j = a + 3 + (j - 3) by omega]; exact pt _ (by omega) (by omega)
  · exact rd j c.1 c.2 h12
  · rw [show a + j = a + 37 + (j - 37) by omega]; exact st _ o3 _ (by omega)
  · rw [show a + j = a + 42 + (j - 42) by omega]; exact st _ o4 _ (by omega)
  · rw [o5.1]; decide
  · rw [show a + 48 = a + 47 + 1 by omega, o5.2.2.1]; decide
  · have hs := (o5.2.2.2.2 ((j - 49) / 5) (by omega)).2
    rw [show a + j = a + 47 + 2 + 5 * ((j - 49) / 5) + (j - 49) % 5 by omega]
    exact st _ hs _ (Nat.mod_lt _ (by decide))
  · rw [t6]; decide
  · rw [show a + j = a + 120 + (j - 120) by omega]; exact st _ q0 _ (by omega)
  · rw [show a + j = a + 125 + (j - 125) by omega]; exact st _ q1 _ (by omega)
  · rw [t7]; decide
  · rw [show a + j = a + 131 + (j - 131) by omega]; exact se _ o8 _ (by omega)
  · rw [show a + j = a + 136 + (j - 136) by omega]; exact se _ o9 _ (by omega)
  · rw [show a + j = a + 141 + (j - 141) by omega]; exact bp _ (by omega)
/-- a pattern is no part of an object that changes -/
theorem pt_out {G : mx_G} {a r : Nat} (h : oSP G a) (hp : oPT G r) : ∀ b, r ≤ b → b < r + 5 → b < a ∨ (a + 3 ≤ b ∧ b < a + 8) ∨ (a + 12 ≤ b ∧ b < a + 17) ∨ a + 146 ≤ b := by
  have h0 : mx_tg G a = 19 := h.1
  have h17 : mx_tg G (a + 8 + 9 + 2 * 0) = 14 := (h.2.2.2.1.2.2.2.2.2 0 (by decide)).1.2
  have hno := oSP_no h
  obtain ⟨s0, ⟨-, s1, -⟩, ⟨-, s2, -⟩, ⟨-, s3, -⟩, ⟨-, s4, -⟩⟩ := hp
  have ar : ∀ b, r < b → b < r + 5 → mx_tg G b = 1 ∨ mx_tg G b = 2 := fun b h1 h2 => by
    rcases (show b = r + 1 ∨ b = r + 2 ∨ b = r + 3 ∨ b = r + 4 by omega) with rfl | rfl | rfl | rfl
    · exact Or.inr s1
    · exact Or.inl s2
    · exact Or.inl s3
    · exact Or.inl s4
  intro b h1 h2
  rcases Nat.lt_or_ge r a with q | q
  · rcases Nat.lt_or_ge b a with q2 | q2
    · exact Or.inl q2
    · exfalso
      rcases ar a q (by omega) with e | e <;> (rw [h0] at e; cases e)
  · rcases Nat.lt_or_ge r (a + 146) with q3 | q3
    · have hj : r - a = 3 ∨ (12 ≤ r - a ∧ r - a < 17) := by
        refine Classical.byContradiction (fun no => hno (r - a) (by omega) (fun e => no (Or.inl e)) (fun e => no (Or.inr e)) ?_)
        rw [show a + (r - a) = r by omega]; exact s0
      rcases hj with e | e
      · omega
      · have e12 : r = a + 12 := by
          refine Classical.byContradiction (fun no => ?_)
          rcases ar (a + 8 + 9 + 2 * 0) (by omega) (by omega) with e9 | e9 <;> (rw [h17] at e9; cases e9)
        omega
    · omega
/-- what one object does leaves the other as it is -/
theorem cP.oth {G G1 : mx_G} {I I1 : mx_I} {a b : Nat} {z z' : Zs} (k : cP G I a z' G1 I1) (ha : oSP G a) (h : cW G I b z) (hab : a + 146 ≤ b ∨ b + 146 ≤ a) : cW G1 I1 b z := by
  have hb := h.1.2.1
  have h1 : cW G I1 b z := by
    refine h.ap (fun c hc1 hc2 => k.2.2.2.1 c (by omega) (by omega)) (fun r hr hrs c h1 h2 => k.2.2.2.1 c (pt_out ha hr c h1 h2) (by omega))
  exact h1.gk k.2.1 k.2.2.1 (fun o ho => k.2.2.2.2 o (by omega))
/-- what the law tells of a call: its answer, or what its fault is told by -/
def tv (f : Nat) (x : Int32) : Int32 := if f = 0 then x else if f = 1 then -9999001 else if f = 2 then -9999002 else -9999003
theorem tv_0 {f : Nat} {x : Int32} (h : f = 0) : tv f x = x := if_pos h
theorem tv_1 {f : Nat} {x : Int32} (h : f = 1) : tv f x = -9999001 := by subst h; rfl
theorem tv_2 {f : Nat} {x : Int32} (h : f = 2) : tv f x = -9999002 := by subst h; rfl
theorem tv_3 {f : Nat} {x : Int32} (h : f = 3) : tv f x = -9999003 := by subst h; rfl
def tz (f : Nat) (z nx : Zs) : Zs := if f = 0 then nx else z
theorem tz_0 {f : Nat} {z nx : Zs} (h : f = 0) : tz f z nx = nx := if_pos h
theorem tz_n {f : Nat} {z nx : Zs} (h : ¬ f = 0) : tz f z nx = z := if_neg h
theorem tz_s (f : Nat) (z : Zs) : tz f z z = z := by unfold tz; split <;> rfl
