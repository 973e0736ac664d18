/-! WHAT THE CLASS THROWS -/
def exC : List String := ["java/lang/RuntimeException", "java/lang/Exception"]
def exN : Nat → String
  | 1 => "java/lang/IndexOutOfBoundsException"
  | 2 => "java/lang/IllegalArgumentException"
  | _ => "java/lang/IllegalStateException"
theorem ex_t1 : ∀ w ∈ vx_atS RX9 280 "java/lang/IndexOutOfBoundsException" exC, w ∈ lw_tbl := by decide +kernel
theorem ex_g1 : (vx_atS RX9 280 "java/lang/IndexOutOfBoundsException" exC).all (fun w => goodWord w || decide (w ∈ mx_EW)) = true := by decide +kernel
theorem ex_o1 : (vx_atS RX9 280 "java/lang/IndexOutOfBoundsException" exC).all vx_ot = true := by decide +kernel
theorem ex_i1 : Cond.initialized "java/lang/IndexOutOfBoundsException" ∈ mx_AW := mx_in 43 (by decide +kernel) (by decide +kernel)
theorem ex_t2 : ∀ w ∈ vx_atS RX9 287 "java/lang/IllegalArgumentException" exC, w ∈ lw_tbl := by decide +kernel
theorem ex_g2 : (vx_atS RX9 287 "java/lang/IllegalArgumentException" exC).all (fun w => goodWord w || decide (w ∈ mx_EW)) = true := by decide +kernel
theorem ex_o2 : (vx_atS RX9 287 "java/lang/IllegalArgumentException" exC).all vx_ot = true := by decide +kernel
theorem ex_i2 : Cond.initialized "java/lang/IllegalArgumentException" ∈ mx_AW := mx_in 44 (by decide +kernel) (by decide +kernel)
theorem ex_t3 : ∀ w ∈ vx_atS RX9 292 "java/lang/IllegalStateException" exC, w ∈ lw_tbl := by decide +kernel
theorem ex_g3 : (vx_atS RX9 292 "java/lang/IllegalStateException" exC).all (fun w => goodWord w || decide (w ∈ mx_EW)) = true := by decide +kernel
theorem ex_o3 : (vx_atS RX9 292 "java/lang/IllegalStateException" exC).all vx_ot = true := by decide +kernel
theorem ex_i3 : Cond.initialized "java/lang/IllegalStateException" ∈ mx_AW := mx_in 45 (by decide +kernel) (by decide +kernel)
section MXT
variable {M : mx_MI} {S : mx_Sc} {d bc bs pc : Nat} {ls : List (Option Value)} {st : List Value} {G : mx_G} {I : mx_I} {Q : Option Value → mx_G → mx_I → Prop} {X : String → mx_G → mx_I → Prop}
theorem mx_throw {ik is ic : Nat} {E text : String} (hfit : Bundle.fit E = true) (hi : Cond.initialized E ∈ mx_AW) (hk : Cond.classLink (mx_own M) ik E ∈ mx_AW) (ho : mx_own M = RX9)
    (hstr : ∀ (base : Nat) (D : va_G) (dA : Nat → ClassId) (s : State), mx_KK base D dA s s.heap → ∃ a, vk_R RX9 is text a s)
    (ht : ∀ w ∈ vx_atS RX9 ic E exC, w ∈ lw_tbl) (hg : (vx_atS RX9 ic E exC).all (fun w => goodWord w || decide (w ∈ mx_EW)) = true) (hot : (vx_atS RX9 ic E exC).all vx_ot = true)
    (d0 : decode (mx_cc M) pc = .ok (.new ik, 3)) (d3 : decode (mx_cc M) (pc + 3) = .ok (.dup, 1)) (d4 : decode (mx_cc M) (pc + 4) = .ok (.ldc_w is, 3)) (d7 : decode (mx_cc M) (pc + 7) = .ok (.invokespecial ic, 3)) (d10 : decode (mx_cc M) (pc + 10) = .ok (.athrow, 1))
    (hh : mx_hh M = []) (hd : 6 ≤ d) (hst : (st.map fun v => v.category).sum ≤ 8)
    (hx : ∀ z, mx_sz G ≤ z → X E (mx_more G z) I) : mx_V M S d (bc + 1) (bs + 6) pc ls st G I Q X := by
  intro p l e R s m args below meth c mc ms base D dA hF H locs cells slots lsA hM
  obtain ⟨hx9, hb, hml, hrt, hown, hts, hlocks, htab, hini, hfl, hRf, hRl, hmc, hms, hbase, hKK⟩ := hF
  obtain ⟨hR, hS, hc1, hc2, hL, -⟩ := hM
  obtain ⟨sa, hsa⟩ := hstr base D dA s hKK
  rw [ho] at hown hk
  have hl : l.stackTraces = false := by unfold Launch.stackTraces; rw [hfl]; decide
  have hat : ∀ w ∈ vx_atS RX9 ic E exC, w.before args s = true := fun w hw => by
    have h1 := List.all_eq_true.mp hg w hw
    simp only [Bool.or_eq_true, decide_eq_true_eq] at h1
    rcases h1 with h1 | h1
    · exact hts w (List.mem_filter.mpr ⟨ht w hw, h1⟩)
    · have h2 := List.all_eq_true.mp hot w hw
      have h3 : va_Nw w s := hKK.2.2.2.2.2.2.2.2.1.2.2 w h1
      unfold mx_EW at h1
      simp only [List.mem_cons, List.not_mem_nil, or_false] at h1
      rcases h1 with rfl | rfl | rfl | rfl | rfl | rfl <;> exact va_Nw.use rfl h3
  have hgood : ∀ w ∈ Cond.classLink RX9 ik E :: Cond.initialized E :: vx_atS RX9 ic E exC, vx_ot w = true := fun w hw => by
    rcases List.mem_cons.mp hw with rfl | hw
    · rfl
    · rcases List.mem_cons.mp hw with rfl | hw
      · rfl
      · exact List.all_eq_true.mp hot w hw
  refine vx_throwSW (own := RX9) (cls := E) (text := text) (names := exC) (ik := ik) (is := is) (ic := ic) (sa := sa) (A := fun q => base ≤ q) hx9 hb hl hown hfit (by decide) (hts _ hk) (hts _ hi) hsa hat hgood hKK.2.2.1 hKK.2.2.2.1 hS (hL.1.trans hml.symm) d0 d3 d4 d7 d10 (by rw [htab, hh]; intro x hx; cases hx) (by show 2 + 3 < R.frames; omega) (by show _ + (13 * (2 + 1) + 43) ≤ R.locals; omega) (by omega) (by omega) hlocks ?_ hS.2.2 (by omega) (by omega)
  intro t ht1 ht2 ht3
  refine ⟨⟨mx_more G t.heap.size, I, hx _ (by rw [← hR.1]; exact ht2), hR.more ht2 ht3⟩, Nat.le_trans hS.1 ht2, fun q h1 h2 => (ht3 q (Nat.lt_of_lt_of_le h1 hS.1)).trans (hS.2.1 q h1 h2)⟩
end MXT

/-- thrown with nothing changed but what lies behind all -/
def mx_thw (f : Nat) (G : mx_G) (I : mx_I) (E : String) (Gz : mx_G) (Iz : mx_I) : Prop := E = exN f ∧ (∃ z, mx_sz G ≤ z ∧ Gz = mx_more G z) ∧ I = Iz
set_option maxHeartbeats 4000000 in
set_option maxRecDepth 100000 in
theorem ct_refuse (G : mx_G) (I : mx_I) (f : Nat) (hf : f ≤ 3) : mx_CT yX9_refuse mX9_refuse 6 1 6 [.int (nI f)] G I (fun rv Gz Iz => f = 0 ∧ rv = none ∧ Gz = G ∧ I = Iz) (fun E Gz Iz => f ≠ 0 ∧ mx_thw f G I E Gz Iz) := by
  refine mx_start (k := 0) (by decide) rfl rfl (fun h => nomatch h) (Nat.le_of_ble_eq_true rfl) ?_
  show mx_V mX9_refuse mx_S0 6 1 6 0 [some (.int (nI f))] [] G I (fun rv Gz Iz => f = 0 ∧ rv = none ∧ Gz = G ∧ I = Iz) (fun E Gz Iz => f ≠ 0 ∧ mx_thw f G I E Gz Iz)
  refine mx_iload_n (i := 0) (hi := rfl) (hl := rfl) (hd := dX9_refuse_0) ?_
  refine mx_iconstN 1 dX9_refuse_1 (by decide) ?_
  refine mx_cmpN_ne 16 dX9_refuse_2 (by decide) (by omega) (by omega) (fun c2 => ?_) (fun c2 => ?_)
  · skip
    refine mx_iload_n (i := 0) (hi := rfl) (hl := rfl) (hd := dX9_refuse_16) ?_
    refine mx_iconstN 2 dX9_refuse_17 (by decide) ?_
    refine mx_cmpN_ne 32 dX9_refuse_18 (by decide) (by omega) (by omega) (fun c18 => ?_) (fun c18 => ?_)
    · skip
      refine mx_iload_n (i := 0) (hi := rfl) (hl := rfl) (hd := dX9_refuse_32) ?_
      refine mx_iconstN 3 dX9_refuse_33 (by decide) ?_
      refine mx_cmpN_ne 48 dX9_refuse_34 (by decide) (by omega) (by omega) (fun c34 => ?_) (fun c34 => ?_)
      · skip
        exact mx_vret dX9_refuse_48 rfl (⟨by omega, rfl, rfl, rfl⟩)
      · skip
        exact mx_throw (bc := 0) (bs := 0) (E := "java/lang/IllegalStateException") (text := "the state or the text does not allow this") (by decide +kernel) ex_i3 k_428 rfl (fun base D dA s h => h.2.2.2.2.2.2.1) ex_t3 ex_g3 ex_o3 dX9_refuse_37 dX9_refuse_40 dX9_refuse_41 dX9_refuse_44 dX9_refuse_47 rfl (by decide) (by decide) (fun z hz => ⟨by omega, ⟨by rw [c34]; rfl, ⟨z, hz, rfl⟩, rfl⟩⟩)
    · skip
      exact mx_throw (bc := 0) (bs := 0) (E := "java/lang/IllegalArgumentException") (text := "an argument is out of its range") (by decide +kernel) ex_i2 k_412 rfl (fun base D dA s h => h.2.2.2.2.2.1) ex_t2 ex_g2 ex_o2 dX9_refuse_21 dX9_refuse_24 dX9_refuse_25 dX9_refuse_28 dX9_refuse_31 rfl (by decide) (by decide) (fun z hz => ⟨by omega, ⟨by rw [c18]; rfl, ⟨z, hz, rfl⟩, rfl⟩⟩)
  · skip
    exact mx_throw (bc := 0) (bs := 0) (E := "java/lang/IndexOutOfBoundsException") (text := "there is no such person, step or save slot") (by decide +kernel) ex_i1 k_344 rfl (fun base D dA s h => h.2.2.2.2.1) ex_t1 ex_g1 ex_o1 dX9_refuse_5 dX9_refuse_8 dX9_refuse_9 dX9_refuse_12 dX9_refuse_15 rfl (by decide) (by decide) (fun z hz => ⟨by omega, ⟨by rw [c2]; rfl, ⟨z, hz, rfl⟩, rfl⟩⟩)

set_option maxHeartbeats 4000000 in
set_option maxRecDepth 100000 in
theorem ct_require (G : mx_G) (I : mx_I) (c : Prop) [Decidable c] (f : Nat) (hf : f ≤ 3) : mx_CT yX9_require mX9_require 7 1 6 [.int (mx_b (decide (c))), .int (nI f)] G I (fun rv Gz Iz => (c ∨ f = 0) ∧ rv = none ∧ Gz = G ∧ I = Iz) (fun E Gz Iz => ¬ c ∧ f ≠ 0 ∧ mx_thw f G I E Gz Iz) := by
  refine mx_start (k := 0) (by decide) rfl rfl (fun h => nomatch h) (Nat.le_of_ble_eq_true rfl) ?_
  show mx_V mX9_require mx_S0 7 1 6 0 [some (.int (mx_b (decide (c)))), some (.int (nI f))] [] G I (fun rv Gz Iz => (c ∨ f = 0) ∧ rv = none ∧ Gz = G ∧ I = Iz) (fun E Gz Iz => ¬ c ∧ f ≠ 0 ∧ mx_thw f G I E Gz Iz)
  refine mx_iload_n (i := 0) (hi := rfl) (hl := rfl) (hd := dX9_require_0) ?_
  refine mx_ifB_eq 8 dX9_require_1 (by decide) (fun c1 => ?_) (fun c1 => ?_)
  · skip
    refine mx_iload_n (i := 1) (hi := rfl) (hl := rfl) (hd := dX9_require_8) ?_
    refine mx_callS (As := [.int (nI f)]) (rest := []) (b1 := 1) (b2 := 6) dX9_require_9 (ct_refuse G I f (by omega)) km_X9_refuse rfl k_341 k_342 rfl rfl (Nat.le_of_ble_eq_true rfl) (by decide) (fun E G2 I2 h => mx_xo rfl ⟨c1, h⟩) (fun r1 G2 I2 h2 => ?_)
    obtain ⟨e0, e1, e2, e3⟩ := h2
    subst e1; subst e2; subst e3
    exact mx_vret dX9_require_12 rfl (⟨by first | exact Or.inl c1 | exact Or.inr e0, rfl, rfl, rfl⟩)
  · skip
    refine mx_iconstN 0 dX9_require_4 (by decide) ?_
    refine mx_goto (tgt := 9) dX9_require_5 (by decide) ?_
    refine mx_callS (As := [.int (nI 0)]) (rest := []) (b1 := 1) (b2 := 6) dX9_require_9 (ct_refuse G I 0 (by omega)) km_X9_refuse rfl k_341 k_342 rfl rfl (Nat.le_of_ble_eq_true rfl) (by decide) (fun E G2 I2 h => absurd rfl h.1) (fun r3 G2 I2 h4 => ?_)
    obtain ⟨e0, e1, e2, e3⟩ := h4
    subst e1; subst e2; subst e3
    exact mx_vret dX9_require_12 rfl (⟨by first | exact Or.inl c1 | exact Or.inr e0, rfl, rfl, rfl⟩)
