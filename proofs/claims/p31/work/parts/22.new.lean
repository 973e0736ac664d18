/-! THE CONSTRUCTORS -/
theorem mx_sz_uR (G : mx_G) (a k r : Nat) : mx_sz (mx_uR G a k r) = mx_sz G := rfl
theorem mx_sz_nw (G : mx_G) (t n : Nat) : mx_sz (mx_nw G t n) = mx_sz G + 1 := rfl
theorem mx_rf_nw (G : mx_G) (t n b k : Nat) : mx_rf (mx_nw G t n) b k = mx_rf G b k := rfl
section MXN
variable {M : mx_MI} {S : mx_Sc} {d bc bs pc : Nat} {ls : List (Option Value)} {st : List Value} {G : mx_G} {I : mx_I} {Q : Option Value → mx_G → mx_I → Prop} {X : String → mx_G → mx_I → Prop}
theorem mx_newE {idx ci a bc' bs' : Nat} (bc bs : Nat) (hb : bc' = bc + 1) (hs : bs' = bs + mx_N ci) (hd : decode (mx_cc M) pc = .ok (.new idx, 3)) (hlk : Cond.classLink (mx_own M) idx (mx_C ci) ∈ mx_AW) (hnw : Cond.instantiable (mx_C ci) (mx_N ci) ∈ mx_AW ∧ Cond.initialized (mx_C ci) ∈ mx_AW) (hlt : ci < 10) (ha : mx_sz G = a) (kk : mx_V M S d bc bs (pc + 3) ls (.ref a :: st) (mx_nw G (ci + 10) 0) I Q X) : mx_V M S d bc' bs' pc ls st G I Q X := by
  subst ha
  subst hb
  subst hs
  exact mx_new hd hlk hnw hlt kk
theorem mx_newaE {t n a bc' bs' : Nat} {v : Int32} {atype : ArrayType} (bc bs : Nat) (hb : bc' = bc + 1) (hs : bs' = bs + n) (hd : decode (mx_cc M) pc = .ok (.newarray atype, 2)) (hty : mx_aty t = some (newarray.typeOf atype)) (ht : t = 1 ∨ t = 2 ∨ t = 3 ∨ t = 4) (hlk : Cond.arrayClass (newarray.typeOf atype) ∈ mx_AW) (hv : v = nI n) (hn : n ≤ 65536) (ha : mx_sz G = a) (kk : mx_V M S d bc bs (pc + 2) ls (.ref a :: st) (mx_nw G t n) I Q X) : mx_V M S d bc' bs' pc ls (.int v :: st) G I Q X := by
  subst ha
  subst hb
  subst hs
  exact mx_newa hd hty ht hlk hv hn kk
theorem mx_anewE {t n idx a bc' bs' : Nat} {v : Int32} {C : String} (bc bs : Nat) (hb : bc' = bc + 1) (hs : bs' = bs + n) (hd : decode (mx_cc M) pc = .ok (.anewarray idx, 3)) (hty : mx_aty t = some (.object C)) (ht : t = 5 ∨ t = 6) (hlk : Cond.classLink (mx_own M) idx C ∈ mx_AW) (hov : C = "StepPaths$State" ∨ C = "StepPaths$Piece") (hv : v = nI n) (hn : n ≤ 65536) (ha : mx_sz G = a) (kk : mx_V M S d bc bs (pc + 3) ls (.ref a :: st) (mx_nw G t n) I Q X) : mx_V M S d bc' bs' pc ls (.int v :: st) G I Q X := by
  subst ha
  subst hb
  subst hs
  exact mx_anew hd hty ht hlk hov hv hn kk
/-- what has not been made holds nothing -/
theorem mx_cl0 (kk : (∀ a, mx_sz G ≤ a → mx_tg G a = 0 ∧ (∀ k, mx_rf G a k = 0) ∧ ∀ k, I a k = 0) → mx_V M S d bc bs pc ls st G I Q X) : mx_V M S d bc bs pc ls st G I Q X := by
  intro p l e R s m args below meth c mc ms base D dA hF H locs cells slots lsA hM
  exact kk (fun a ha => ⟨(hM.1.2.2.2.1 a ha).1, (hM.1.2.2.2.1 a ha).2.1, (hM.1.2.2.2.1 a ha).2.2.1⟩) p l e R s m args below meth c mc ms base D dA hF H locs cells slots lsA hM
end MXN
/-- from lo up to hi all shapes are as they were -/
def mx_cr (G G' : mx_G) (lo hi : Nat) : Prop := ∀ b, lo ≤ b → b < hi → mx_tg G' b = mx_tg G b ∧ mx_ln G' b = mx_ln G b ∧ ∀ k, mx_rf G' b k = mx_rf G b k
theorem mx_cr.rf (G : mx_G) (lo hi : Nat) : mx_cr G G lo hi := fun _ _ _ => ⟨rfl, rfl, fun _ => rfl⟩
theorem mx_cr.tr {G G1 G2 : mx_G} {lo hi : Nat} (h : mx_cr G G1 lo hi) (k : mx_cr G1 G2 lo hi) : mx_cr G G2 lo hi := fun b q1 q2 => by
  obtain ⟨h1, h2, h3⟩ := h b q1 q2
  obtain ⟨k1, k2, k3⟩ := k b q1 q2
  exact ⟨k1.trans h1, k2.trans h2, fun j => (k3 j).trans (h3 j)⟩
theorem mx_cr.wk {G G1 : mx_G} {lo hi lo' hi' : Nat} (h : mx_cr G G1 lo hi) (h1 : lo ≤ lo') (h2 : hi' ≤ hi) : mx_cr G G1 lo' hi' := fun b q1 q2 => h b (by omega) (by omega)
theorem mx_cr.nw {G G1 : mx_G} {lo hi : Nat} (h : mx_cr G G1 lo hi) (t n : Nat) (hh : hi ≤ mx_sz G1) : mx_cr G (mx_nw G1 t n) lo hi := fun b q1 q2 => by
  obtain ⟨h1, h2, h3⟩ := h b q1 q2
  refine ⟨?_, ?_, fun k => h3 k⟩
  · rw [mx_tg_nw, if_neg (by omega)]; exact h1
  · rw [mx_ln_nw, if_neg (by omega)]; exact h2
theorem mx_cr.uR {G G1 : mx_G} {lo hi : Nat} (h : mx_cr G G1 lo hi) (a k r : Nat) (ha : a < lo ∨ hi ≤ a) : mx_cr G (mx_uR G1 a k r) lo hi := fun b q1 q2 => by
  obtain ⟨h1, h2, h3⟩ := h b q1 q2
  refine ⟨h1, h2, fun j => ?_⟩
  rw [mx_rf_uR, if_neg (by omega)]; exact h3 j
theorem mx_cr.tg {G G1 : mx_G} {lo hi a t : Nat} (h : mx_cr G G1 lo hi) (h1 : mx_tg G a = t) (h2 : lo ≤ a) (h3 : a < hi) : mx_tg G1 a = t := (h a h2 h3).1.trans h1
theorem mx_cr.ar {G G1 : mx_G} {lo hi o k a t n : Nat} (h : mx_cr G G1 lo hi) (q : mx_rf G o k = a ∧ mx_tg G a = t ∧ mx_ln G a = n) (h1 : lo ≤ o) (h2 : o < hi) (h3 : lo ≤ a) (h4 : a < hi) : mx_rf G1 o k = a ∧ mx_tg G1 a = t ∧ mx_ln G1 a = n := ⟨((h o h1 h2).2.2 k).trans q.1, h.tg q.2.1 h3 h4, (h a h3 h4).2.1.trans q.2.2⟩
theorem mx_cr.r {G G1 : mx_G} {lo hi o k r : Nat} (h : mx_cr G G1 lo hi) (q : mx_rf G o k = r) (h1 : lo ≤ o) (h2 : o < hi) : mx_rf G1 o k = r := ((h o h1 h2).2.2 k).trans q
theorem oST.cr {G G1 : mx_G} {lo hi o : Nat} (h : oST G o) (m : mx_cr G G1 lo hi) (h1 : lo ≤ o) (h2 : o + 5 ≤ hi) : oST G1 o := by
  obtain ⟨q1, q2, q3, q4, q5⟩ := h
  exact ⟨m.tg q1 h1 (by omega), m.ar q2 h1 (by omega) (by omega) (by omega), m.ar q3 h1 (by omega) (by omega) (by omega), m.ar q4 h1 (by omega) (by omega) (by omega), m.ar q5 h1 (by omega) (by omega) (by omega)⟩
theorem oPT.cr {G G1 : mx_G} {lo hi o : Nat} (h : oPT G o) (m : mx_cr G G1 lo hi) (h1 : lo ≤ o) (h2 : o + 5 ≤ hi) : oPT G1 o := by
  obtain ⟨q1, q2, q3, q4, q5⟩ := h
  exact ⟨m.tg q1 h1 (by omega), m.ar q2 h1 (by omega) (by omega) (by omega), m.ar q3 h1 (by omega) (by omega) (by omega), m.ar q4 h1 (by omega) (by omega) (by omega), m.ar q5 h1 (by omega) (by omega) (by omega)⟩
theorem oTX.cr {G G1 : mx_G} {lo hi o : Nat} (h : oTX G o) (m : mx_cr G G1 lo hi) (h1 : lo ≤ o) (h2 : o + 2 ≤ hi) : oTX G1 o := ⟨m.tg h.1 h1 (by omega), m.ar h.2 h1 (by omega) (by omega) (by omega)⟩
theorem oWH.cr {G G1 : mx_G} {lo hi o : Nat} (h : oWH G o) (m : mx_cr G G1 lo hi) (h1 : lo ≤ o) (h2 : o + 2 ≤ hi) : oWH G1 o := ⟨m.tg h.1 h1 (by omega), m.ar h.2 h1 (by omega) (by omega) (by omega)⟩
theorem oSE.cr {G G1 : mx_G} {lo hi o : Nat} (h : oSE G o) (m : mx_cr G G1 lo hi) (h1 : lo ≤ o) (h2 : o + 5 ≤ hi) : oSE G1 o := ⟨m.tg h.1 h1 (by omega), m.ar h.2.1 h1 (by omega) (by omega) (by omega), m.ar h.2.2.1 h1 (by omega) (by omega) (by omega), m.r h.2.2.2.1 h1 (by omega), h.2.2.2.2.cr m (by omega) (by omega)⟩
theorem oBP.cr {G G1 : mx_G} {lo hi o : Nat} (h : oBP G o) (m : mx_cr G G1 lo hi) (h1 : lo ≤ o) (h2 : o + 5 ≤ hi) : oBP G1 o := ⟨m.tg h.1 h1 (by omega), m.ar h.2.1 h1 (by omega) (by omega) (by omega), m.ar h.2.2.1 h1 (by omega) (by omega) (by omega), m.r h.2.2.2.1 h1 (by omega), h.2.2.2.2.cr m (by omega) (by omega)⟩
theorem oHI.cr {G G1 : mx_G} {lo hi o : Nat} (h : oHI G o) (m : mx_cr G G1 lo hi) (h1 : lo ≤ o) (h2 : o + 72 ≤ hi) : oHI G1 o := by
  obtain ⟨q1, q2, q3, q4, q5⟩ := h
  obtain ⟨z2, z3, z4⟩ := m.ar ⟨q2, q3, q4⟩ h1 (by omega) (by omega) (by omega)
  exact ⟨m.tg q1 h1 (by omega), z2, z3, z4, fun i hi => ⟨m.r (q5 i hi).1 (by omega) (by omega), (q5 i hi).2.cr m (by omega) (by omega)⟩⟩
theorem oRD.cr {G G1 : mx_G} {lo hi o : Nat} (h : oRD G o) (m : mx_cr G G1 lo hi) (h1 : lo ≤ o) (h2 : o + 29 ≤ hi) : oRD G1 o := by
  obtain ⟨q1, q2, q3, ⟨q4, q5⟩, q6⟩ := h
  exact ⟨m.tg q1 h1 (by omega), m.ar q2 h1 (by omega) (by omega) (by omega), m.ar q3 h1 (by omega) (by omega) (by omega), ⟨m.r q4 h1 (by omega), m.tg q5 (by omega) (by omega)⟩, fun i hi => ⟨⟨m.r (q6 i hi).1.1 (by omega) (by omega), m.tg (q6 i hi).1.2 (by omega) (by omega)⟩, m.r (q6 i hi).2.1 (by omega) (by omega), m.tg (q6 i hi).2.2 (by omega) (by omega)⟩⟩

set_option maxHeartbeats 4000000 in
set_option maxRecDepth 100000 in
theorem ct_newWheel (G : mx_G) (I : mx_I) (a : Nat) (ht : mx_tg G a = 18) (hz : mx_sz G = a + 1) : mx_CT yX8_init mX8_init 2 1 80 [.ref a] G I (fun rv Gz Iz => rv = none ∧ I = Iz ∧ mx_sz Gz = a + 2 ∧ mx_cr G Gz 0 a ∧ oWH Gz a) (fun _ _ _ => False) := by
  refine mx_start (k := 0) (by decide) rfl rfl (fun _ => rfl) (Nat.le_of_ble_eq_true rfl) ?_
  show mx_V mX8_init mx_S0 2 1 80 0 [some (.ref a)] [] G I (fun rv Gz Iz => rv = none ∧ I = Iz ∧ mx_sz Gz = a + 2 ∧ mx_cr G Gz 0 a ∧ oWH Gz a) (fun _ _ _ => False)
  refine mx_aload_n (i := 0) (hi := rfl) (hl := rfl) (hd := dX8_init_0) ?_
  refine mx_objInit (hd := dX8_init_1) k_241 k_oi k_oc (by decide) (by decide) ?_
  refine mx_aload_n (i := 0) (hi := rfl) (hl := rfl) (hd := dX8_init_4) ?_
  refine mx_bipushN 80 dX8_init_5 (by decide) ?_
  refine mx_newaE (bc := 0) (bs := 0) (t := 1) (n := 80) (a := (a + 1)) (by first | rfl | omega) (by first | rfl | omega) dX8_init_7 rfl (by decide) k_ac_int rfl (by decide) (by show mx_sz G + 0 = a + 1; omega) ?_
  refine mx_putF (ci := 8) (k := 0) dX8_init_9 k_242 (by decide) rfl rfl rfl rfl (by simp [mx_tg_uR, mx_ln_uR, mx_rf_uR, mx_sz_uR, mx_tg_nw, mx_ln_nw, mx_rf_nw, mx_sz_nw, hz, ht, Nat.add_assoc]) (by simp [mx_tg_uR, mx_ln_uR, mx_rf_uR, mx_sz_uR, mx_tg_nw, mx_ln_nw, mx_rf_nw, mx_sz_nw, hz, ht, Nat.add_assoc]) ?_
  exact mx_vret dX8_init_12 rfl (⟨rfl, rfl, by simp [mx_tg_uR, mx_ln_uR, mx_rf_uR, mx_sz_uR, mx_tg_nw, mx_ln_nw, mx_rf_nw, mx_sz_nw, hz, ht, Nat.add_assoc], (((mx_cr.rf G 0 a).nw _ _ (by simp only [mx_sz_uR, mx_sz_nw, hz]; omega)).uR _ _ _ (by omega)), by refine ⟨?_, ?_, ?_, ?_⟩ <;> simp [mx_tg_uR, mx_ln_uR, mx_rf_uR, mx_sz_uR, mx_tg_nw, mx_ln_nw, mx_rf_nw, mx_sz_nw, hz, ht, Nat.add_assoc]⟩)

set_option maxHeartbeats 4000000 in
set_option maxRecDepth 100000 in
theorem ct_newPiece (G : mx_G) (I : mx_I) (a : Nat) (ht : mx_tg G a = 14) (hz : mx_sz G = a + 1) : mx_CT yX4_init mX4_init 2 0 0 [.ref a] G I (fun rv Gz Iz => rv = none ∧ I = Iz ∧ Gz = G) (fun _ _ _ => False) := by
  refine mx_start (k := 0) (by decide) rfl rfl (fun _ => rfl) (Nat.le_of_ble_eq_true rfl) ?_
  show mx_V mX4_init mx_S0 2 0 0 0 [some (.ref a)] [] G I (fun rv Gz Iz => rv = none ∧ I = Iz ∧ Gz = G) (fun _ _ _ => False)
  refine mx_aload_n (i := 0) (hi := rfl) (hl := rfl) (hd := dX4_init_0) ?_
  refine mx_objInit (hd := dX4_init_1) k_125 k_oi k_oc (by decide) (by decide) ?_
  exact mx_vret dX4_init_4 rfl (⟨rfl, rfl, rfl⟩)

set_option maxHeartbeats 4000000 in
set_option maxRecDepth 100000 in
theorem ct_newText (G : mx_G) (I : mx_I) (a : Nat) (ht : mx_tg G a = 17) (hz : mx_sz G = a + 1) : mx_CT yX7_init mX7_init 2 1 110 [.ref a] G I (fun rv Gz Iz => rv = none ∧ I = Iz ∧ mx_sz Gz = a + 2 ∧ mx_cr G Gz 0 a ∧ oTX Gz a) (fun _ _ _ => False) := by
  refine mx_start (k := 0) (by decide) rfl rfl (fun _ => rfl) (Nat.le_of_ble_eq_true rfl) ?_
  show mx_V mX7_init mx_S0 2 1 110 0 [some (.ref a)] [] G I (fun rv Gz Iz => rv = none ∧ I = Iz ∧ mx_sz Gz = a + 2 ∧ mx_cr G Gz 0 a ∧ oTX Gz a) (fun _ _ _ => False)
  refine mx_aload_n (i := 0) (hi := rfl) (hl := rfl) (hd := dX7_init_0) ?_
  refine mx_objInit (hd := dX7_init_1) k_61 k_oi k_oc (by decide) (by decide) ?_
  refine mx_aload_n (i := 0) (hi := rfl) (hl := rfl) (hd := dX7_init_4) ?_
  refine mx_bipushN 110 dX7_init_5 (by decide) ?_
  refine mx_newaE (bc := 0) (bs := 0) (t := 2) (n := 110) (a := (a + 1)) (by first | rfl | omega) (by first | rfl | omega) dX7_init_7 rfl (by decide) k_ac_char rfl (by decide) (by show mx_sz G + 0 = a + 1; omega) ?_
  refine mx_putF (ci := 7) (k := 0) dX7_init_9 k_62 (by decide) rfl rfl rfl rfl (by simp [mx_tg_uR, mx_ln_uR, mx_rf_uR, mx_sz_uR, mx_tg_nw, mx_ln_nw, mx_rf_nw, mx_sz_nw, hz, ht, Nat.add_assoc]) (by simp [mx_tg_uR, mx_ln_uR, mx_rf_uR, mx_sz_uR, mx_tg_nw, mx_ln_nw, mx_rf_nw, mx_sz_nw, hz, ht, Nat.add_assoc]) ?_
  exact mx_vret dX7_init_12 rfl (⟨rfl, rfl, by simp [mx_tg_uR, mx_ln_uR, mx_rf_uR, mx_sz_uR, mx_tg_nw, mx_ln_nw, mx_rf_nw, mx_sz_nw, hz, ht, Nat.add_assoc], (((mx_cr.rf G 0 a).nw _ _ (by simp only [mx_sz_uR, mx_sz_nw, hz]; omega)).uR _ _ _ (by omega)), by refine ⟨?_, ?_, ?_, ?_⟩ <;> simp [mx_tg_uR, mx_ln_uR, mx_rf_uR, mx_sz_uR, mx_tg_nw, mx_ln_nw, mx_rf_nw, mx_sz_nw, hz, ht, Nat.add_assoc]⟩)

set_option maxHeartbeats 4000000 in
set_option maxRecDepth 100000 in
theorem ct_newState (G : mx_G) (I : mx_I) (a : Nat) (ht : mx_tg G a = 16) (hz : mx_sz G = a + 1) (r : Nat) (hr : mx_tg G r ≠ 0) (hra : r < a) : mx_CT yX6_init mX6_init 2 4 100 [.ref a, .ref r] G I (fun rv Gz Iz => rv = none ∧ I = Iz ∧ mx_sz Gz = a + 5 ∧ mx_cr G Gz 0 a ∧ oST Gz a ∧ mx_rf Gz a 6 = r) (fun _ _ _ => False) := by
  refine mx_start (k := 0) (by decide) rfl rfl (fun _ => rfl) (Nat.le_of_ble_eq_true rfl) ?_
  show mx_V mX6_init mx_S0 2 4 100 0 [some (.ref a), some (.ref r)] [] G I (fun rv Gz Iz => rv = none ∧ I = Iz ∧ mx_sz Gz = a + 5 ∧ mx_cr G Gz 0 a ∧ oST Gz a ∧ mx_rf Gz a 6 = r) (fun _ _ _ => False)
  refine mx_aload_n (i := 0) (hi := rfl) (hl := rfl) (hd := dX6_init_0) ?_
  refine mx_objInit (hd := dX6_init_1) k_162 k_oi k_oc (by decide) (by decide) ?_
  refine mx_aload_n (i := 0) (hi := rfl) (hl := rfl) (hd := dX6_init_4) ?_
  refine mx_bipushN 25 dX6_init_5 (by decide) ?_
  refine mx_newaE (bc := 3) (bs := 75) (t := 1) (n := 25) (a := (a + 1)) (by first | rfl | omega) (by first | rfl | omega) dX6_init_7 rfl (by decide) k_ac_int rfl (by decide) (by show mx_sz G + 0 = a + 1; omega) ?_
  refine mx_putF (ci := 6) (k := 2) dX6_init_9 k_173 (by decide) rfl rfl rfl rfl (by simp [mx_tg_uR, mx_ln_uR, mx_rf_uR, mx_sz_uR, mx_tg_nw, mx_ln_nw, mx_rf_nw, mx_sz_nw, hz, ht, Nat.add_assoc]) (by simp [mx_tg_uR, mx_ln_uR, mx_rf_uR, mx_sz_uR, mx_tg_nw, mx_ln_nw, mx_rf_nw, mx_sz_nw, hz, ht, Nat.add_assoc]) ?_
  refine mx_aload_n (i := 0) (hi := rfl) (hl := rfl) (hd := dX6_init_12) ?_
  refine mx_bipushN 25 dX6_init_13 (by decide) ?_
  refine mx_newaE (bc := 2) (bs := 50) (t := 1) (n := 25) (a := (a + 2)) (by first | rfl | omega) (by first | rfl | omega) dX6_init_15 rfl (by decide) k_ac_int rfl (by decide) (by show mx_sz G + 1 = a + 2; omega) ?_
  refine mx_putF (ci := 6) (k := 3) dX6_init_17 k_178 (by decide) rfl rfl rfl rfl (by simp [mx_tg_uR, mx_ln_uR, mx_rf_uR, mx_sz_uR, mx_tg_nw, mx_ln_nw, mx_rf_nw, mx_sz_nw, hz, ht, Nat.add_assoc]) (by simp [mx_tg_uR, mx_ln_uR, mx_rf_uR, mx_sz_uR, mx_tg_nw, mx_ln_nw, mx_rf_nw, mx_sz_nw, hz, ht, Nat.add_assoc]) ?_
  refine mx_aload_n (i := 0) (hi := rfl) (hl := rfl) (hd := dX6_init_20) ?_
  refine mx_bipushN 25 dX6_init_21 (by decide) ?_
  refine mx_newaE (bc := 1) (bs := 25) (t := 1) (n := 25) (a := (a + 3)) (by first | rfl | omega) (by first | rfl | omega) dX6_init_23 rfl (by decide) k_ac_int rfl (by decide) (by show mx_sz G + 2 = a + 3; omega) ?_
  refine mx_putF (ci := 6) (k := 4) dX6_init_25 k_181 (by decide) rfl rfl rfl rfl (by simp [mx_tg_uR, mx_ln_uR, mx_rf_uR, mx_sz_uR, mx_tg_nw, mx_ln_nw, mx_rf_nw, mx_sz_nw, hz, ht, Nat.add_assoc]) (by simp [mx_tg_uR, mx_ln_uR, mx_rf_uR, mx_sz_uR, mx_tg_nw, mx_ln_nw, mx_rf_nw, mx_sz_nw, hz, ht, Nat.add_assoc]) ?_
  refine mx_aload_n (i := 0) (hi := rfl) (hl := rfl) (hd := dX6_init_28) ?_
  refine mx_bipushN 25 dX6_init_29 (by decide) ?_
  refine mx_newaE (bc := 0) (bs := 0) (t := 1) (n := 25) (a := (a + 4)) (by first | rfl | omega) (by first | rfl | omega) dX6_init_31 rfl (by decide) k_ac_int rfl (by decide) (by show mx_sz G + 3 = a + 4; omega) ?_
  refine mx_putF (ci := 6) (k := 5) dX6_init_33 k_186 (by decide) rfl rfl rfl rfl (by simp [mx_tg_uR, mx_ln_uR, mx_rf_uR, mx_sz_uR, mx_tg_nw, mx_ln_nw, mx_rf_nw, mx_sz_nw, hz, ht, Nat.add_assoc]) (by simp [mx_tg_uR, mx_ln_uR, mx_rf_uR, mx_sz_uR, mx_tg_nw, mx_ln_nw, mx_rf_nw, mx_sz_nw, hz, ht, Nat.add_assoc]) ?_
  refine mx_aload_n (i := 0) (hi := rfl) (hl := rfl) (hd := dX6_init_36) ?_
  refine mx_aload_n (i := 1) (hi := rfl) (hl := rfl) (hd := dX6_init_37) ?_
  refine mx_putR (ci := 6) (k := 6) dX6_init_38 k_191 (by decide) rfl rfl (by simp [mx_tg_uR, mx_ln_uR, mx_rf_uR, mx_sz_uR, mx_tg_nw, mx_ln_nw, mx_rf_nw, mx_sz_nw, hz, ht, Nat.add_assoc]) (by simp [mx_tg_uR, mx_ln_uR, mx_rf_uR, mx_sz_uR, mx_tg_nw, mx_ln_nw, mx_rf_nw, mx_sz_nw, hz, ht, Nat.add_assoc, show r ≠ a + 1 from by omega, show r ≠ a + 2 from by omega, show r ≠ a + 3 from by omega, show r ≠ a + 4 from by omega]; exact hr) ?_
  exact mx_vret dX6_init_41 rfl (⟨rfl, rfl, by simp [mx_tg_uR, mx_ln_uR, mx_rf_uR, mx_sz_uR, mx_tg_nw, mx_ln_nw, mx_rf_nw, mx_sz_nw, hz, ht, Nat.add_assoc], ((((((((((mx_cr.rf G 0 a).nw _ _ (by simp only [mx_sz_uR, mx_sz_nw, hz]; omega)).uR _ _ _ (by omega)).nw _ _ (by simp only [mx_sz_uR, mx_sz_nw, hz]; omega)).uR _ _ _ (by omega)).nw _ _ (by simp only [mx_sz_uR, mx_sz_nw, hz]; omega)).uR _ _ _ (by omega)).nw _ _ (by simp only [mx_sz_uR, mx_sz_nw, hz]; omega)).uR _ _ _ (by omega)).uR _ _ _ (by omega)), by refine ⟨?_, ⟨?_, ?_, ?_⟩, ⟨?_, ?_, ?_⟩, ⟨?_, ?_, ?_⟩, ?_, ?_, ?_⟩ <;> simp [mx_tg_uR, mx_ln_uR, mx_rf_uR, mx_sz_uR, mx_tg_nw, mx_ln_nw, mx_rf_nw, mx_sz_nw, hz, ht, Nat.add_assoc], by simp [mx_tg_uR, mx_ln_uR, mx_rf_uR, mx_sz_uR, mx_tg_nw, mx_ln_nw, mx_rf_nw, mx_sz_nw, hz, ht, Nat.add_assoc]⟩)

set_option maxHeartbeats 4000000 in
set_option maxRecDepth 100000 in
theorem ct_newPattern (G : mx_G) (I : mx_I) (a : Nat) (ht : mx_tg G a = 12) (hz : mx_sz G = a + 1) : mx_CT yX2_init mX2_init 2 4 90 [.ref a] G I (fun rv Gz Iz => rv = none ∧ Iz = mx_u I a 6 (nI 1) ∧ mx_sz Gz = a + 5 ∧ mx_cr G Gz 0 a ∧ oPT Gz a) (fun _ _ _ => False) := by
  refine mx_start (k := 0) (by decide) rfl rfl (fun _ => rfl) (Nat.le_of_ble_eq_true rfl) ?_
  show mx_V mX2_init mx_S0 2 4 90 0 [some (.ref a)] [] G I (fun rv Gz Iz => rv = none ∧ Iz = mx_u I a 6 (nI 1) ∧ mx_sz Gz = a + 5 ∧ mx_cr G Gz 0 a ∧ oPT Gz a) (fun _ _ _ => False)
  refine mx_aload_n (i := 0) (hi := rfl) (hl := rfl) (hd := dX2_init_0) ?_
  refine mx_objInit (hd := dX2_init_1) k_79 k_oi k_oc (by decide) (by decide) ?_
  refine mx_aload_n (i := 0) (hi := rfl) (hl := rfl) (hd := dX2_init_4) ?_
  refine mx_bipushN 40 dX2_init_5 (by decide) ?_
  refine mx_newaE (bc := 3) (bs := 50) (t := 2) (n := 40) (a := (a + 1)) (by first | rfl | omega) (by first | rfl | omega) dX2_init_7 rfl (by decide) k_ac_char rfl (by decide) (by show mx_sz G + 0 = a + 1; omega) ?_
  refine mx_putF (ci := 2) (k := 0) dX2_init_9 k_80 (by decide) rfl rfl rfl rfl (by simp [mx_tg_uR, mx_ln_uR, mx_rf_uR, mx_sz_uR, mx_tg_nw, mx_ln_nw, mx_rf_nw, mx_sz_nw, hz, ht, Nat.add_assoc]) (by simp [mx_tg_uR, mx_ln_uR, mx_rf_uR, mx_sz_uR, mx_tg_nw, mx_ln_nw, mx_rf_nw, mx_sz_nw, hz, ht, Nat.add_assoc]) ?_
  refine mx_aload_n (i := 0) (hi := rfl) (hl := rfl) (hd := dX2_init_12) ?_
  refine mx_bipushN 21 dX2_init_13 (by decide) ?_
  refine mx_newaE (bc := 2) (bs := 29) (t := 1) (n := 21) (a := (a + 2)) (by first | rfl | omega) (by first | rfl | omega) dX2_init_15 rfl (by decide) k_ac_int rfl (by decide) (by show mx_sz G + 1 = a + 2; omega) ?_
  refine mx_putF (ci := 2) (k := 3) dX2_init_17 k_88 (by decide) rfl rfl rfl rfl (by simp [mx_tg_uR, mx_ln_uR, mx_rf_uR, mx_sz_uR, mx_tg_nw, mx_ln_nw, mx_rf_nw, mx_sz_nw, hz, ht, Nat.add_assoc]) (by simp [mx_tg_uR, mx_ln_uR, mx_rf_uR, mx_sz_uR, mx_tg_nw, mx_ln_nw, mx_rf_nw, mx_sz_nw, hz, ht, Nat.add_assoc]) ?_
  refine mx_aload_n (i := 0) (hi := rfl) (hl := rfl) (hd := dX2_init_20) ?_
  refine mx_bipushN 21 dX2_init_21 (by decide) ?_
  refine mx_newaE (bc := 1) (bs := 8) (t := 1) (n := 21) (a := (a + 3)) (by first | rfl | omega) (by first | rfl | omega) dX2_init_23 rfl (by decide) k_ac_int rfl (by decide) (by show mx_sz G + 2 = a + 3; omega) ?_
  refine mx_putF (ci := 2) (k := 4) dX2_init_25 k_89 (by decide) rfl rfl rfl rfl (by simp [mx_tg_uR, mx_ln_uR, mx_rf_uR, mx_sz_uR, mx_tg_nw, mx_ln_nw, mx_rf_nw, mx_sz_nw, hz, ht, Nat.add_assoc]) (by simp [mx_tg_uR, mx_ln_uR, mx_rf_uR, mx_sz_uR, mx_tg_nw, mx_ln_nw, mx_rf_nw, mx_sz_nw, hz, ht, Nat.add_assoc]) ?_
  refine mx_aload_n (i := 0) (hi := rfl) (hl := rfl) (hd := dX2_init_28) ?_
  refine mx_bipushN 8 dX2_init_29 (by decide) ?_
  refine mx_newaE (bc := 0) (bs := 0) (t := 1) (n := 8) (a := (a + 4)) (by first | rfl | omega) (by first | rfl | omega) dX2_init_31 rfl (by decide) k_ac_int rfl (by decide) (by show mx_sz G + 3 = a + 4; omega) ?_
  refine mx_putF (ci := 2) (k := 5) dX2_init_33 k_91 (by decide) rfl rfl rfl rfl (by simp [mx_tg_uR, mx_ln_uR, mx_rf_uR, mx_sz_uR, mx_tg_nw, mx_ln_nw, mx_rf_nw, mx_sz_nw, hz, ht, Nat.add_assoc]) (by simp [mx_tg_uR, mx_ln_uR, mx_rf_uR, mx_sz_uR, mx_tg_nw, mx_ln_nw, mx_rf_nw, mx_sz_nw, hz, ht, Nat.add_assoc]) ?_
  refine mx_aload_n (i := 0) (hi := rfl) (hl := rfl) (hd := dX2_init_36) ?_
  refine mx_iconstN 1 dX2_init_37 (by decide) ?_
  refine mx_putI (ci := 2) (k := 6) dX2_init_38 k_94 (by decide) rfl rfl rfl rfl (by simp [mx_tg_uR, mx_ln_uR, mx_rf_uR, mx_sz_uR, mx_tg_nw, mx_ln_nw, mx_rf_nw, mx_sz_nw, hz, ht, Nat.add_assoc]) ?_
  exact mx_vret dX2_init_41 rfl (⟨rfl, rfl, by simp [mx_tg_uR, mx_ln_uR, mx_rf_uR, mx_sz_uR, mx_tg_nw, mx_ln_nw, mx_rf_nw, mx_sz_nw, hz, ht, Nat.add_assoc], (((((((((mx_cr.rf G 0 a).nw _ _ (by simp only [mx_sz_uR, mx_sz_nw, hz]; omega)).uR _ _ _ (by omega)).nw _ _ (by simp only [mx_sz_uR, mx_sz_nw, hz]; omega)).uR _ _ _ (by omega)).nw _ _ (by simp only [mx_sz_uR, mx_sz_nw, hz]; omega)).uR _ _ _ (by omega)).nw _ _ (by simp only [mx_sz_uR, mx_sz_nw, hz]; omega)).uR _ _ _ (by omega)), by refine ⟨?_, ⟨?_, ?_, ?_⟩, ⟨?_, ?_, ?_⟩, ⟨?_, ?_, ?_⟩, ?_, ?_, ?_⟩ <;> simp [mx_tg_uR, mx_ln_uR, mx_rf_uR, mx_sz_uR, mx_tg_nw, mx_ln_nw, mx_rf_nw, mx_sz_nw, hz, ht, Nat.add_assoc]⟩)

set_option maxHeartbeats 4000000 in
set_option maxRecDepth 100000 in
theorem ct_newSearch (G : mx_G) (I : mx_I) (a : Nat) (ht : mx_tg G a = 15) (hz : mx_sz G = a + 1) : mx_CT yX5_init mX5_init 3 4 97 [.ref a] G I (fun rv Gz Iz => rv = none ∧ I = Iz ∧ mx_sz Gz = a + 5 ∧ mx_cr G Gz 0 a ∧ oSE Gz a) (fun _ _ _ => False) := by
  refine mx_start (k := 0) (by decide) rfl rfl (fun _ => rfl) (Nat.le_of_ble_eq_true rfl) ?_
  show mx_V mX5_init mx_S0 3 4 97 0 [some (.ref a)] [] G I (fun rv Gz Iz => rv = none ∧ I = Iz ∧ mx_sz Gz = a + 5 ∧ mx_cr G Gz 0 a ∧ oSE Gz a) (fun _ _ _ => False)
  refine mx_aload_n (i := 0) (hi := rfl) (hl := rfl) (hd := dX5_init_0) ?_
  refine mx_objInit (hd := dX5_init_1) k_235 k_oi k_oc (by decide) (by decide) ?_
  refine mx_aload_n (i := 0) (hi := rfl) (hl := rfl) (hd := dX5_init_4) ?_
  refine mx_bipushN 8 dX5_init_5 (by decide) ?_
  refine mx_newaE (bc := 3) (bs := 89) (t := 1) (n := 8) (a := (a + 1)) (by first | rfl | omega) (by first | rfl | omega) dX5_init_7 rfl (by decide) k_ac_int rfl (by decide) (by show mx_sz G + 0 = a + 1; omega) ?_
  refine mx_putF (ci := 5) (k := 0) dX5_init_9 k_247 (by decide) rfl rfl rfl rfl (by first | exact t2 | (simp [mx_tg_uR, mx_ln_uR, mx_rf_uR, mx_sz_uR, mx_tg_nw, mx_ln_nw, mx_rf_nw, mx_sz_nw, hz, ht, Nat.add_assoc])) (by simp [mx_tg_uR, mx_ln_uR, mx_rf_uR, mx_sz_uR, mx_tg_nw, mx_ln_nw, mx_rf_nw, mx_sz_nw, hz, ht, Nat.add_assoc]) ?_
  refine mx_aload_n (i := 0) (hi := rfl) (hl := rfl) (hd := dX5_init_12) ?_
  refine mx_bipushN 8 dX5_init_13 (by decide) ?_
  refine mx_newaE (bc := 2) (bs := 81) (t := 1) (n := 8) (a := (a + 2)) (by first | rfl | omega) (by first | rfl | omega) dX5_init_15 rfl (by decide) k_ac_int rfl (by decide) (by show mx_sz G + 1 = a + 2; omega) ?_
  refine mx_putF (ci := 5) (k := 3) dX5_init_17 k_253 (by decide) rfl rfl rfl rfl (by first | exact t2 | (simp [mx_tg_uR, mx_ln_uR, mx_rf_uR, mx_sz_uR, mx_tg_nw, mx_ln_nw, mx_rf_nw, mx_sz_nw, hz, ht, Nat.add_assoc])) (by simp [mx_tg_uR, mx_ln_uR, mx_rf_uR, mx_sz_uR, mx_tg_nw, mx_ln_nw, mx_rf_nw, mx_sz_nw, hz, ht, Nat.add_assoc]) ?_
  refine mx_aload_n (i := 0) (hi := rfl) (hl := rfl) (hd := dX5_init_20) ?_
  refine mx_newE (bc := 1) (bs := 80) (ci := 8) (a := (a + 3)) (by first | rfl | omega) (by first | rfl | (show _ = _ + 1; omega)) dX5_init_21 k_236 nw_X8 (by decide) (by show mx_sz G + 2 = a + 3; omega) ?_
  refine mx_dup (hva := rfl) (hd := dX5_init_24) ?_
  refine mx_callIN (bc := 0) (bs := 0) (As := []) (rest := [.ref (a + 3), .ref a]) (b1 := 1) (b2 := 80) dX5_init_25 (ct_newWheel (mx_nw (mx_uR (mx_nw (mx_uR (mx_nw G 1 8) a 0 (a + 1)) 1 8) a 3 (a + 2)) 18 0) I (a + 3) (by simp [mx_tg_uR, mx_ln_uR, mx_rf_uR, mx_sz_uR, mx_tg_nw, mx_ln_nw, mx_rf_nw, mx_sz_nw, hz, ht, Nat.add_assoc]) (by simp [mx_tg_uR, mx_ln_uR, mx_rf_uR, mx_sz_uR, mx_tg_nw, mx_ln_nw, mx_rf_nw, mx_sz_nw, hz, ht, Nat.add_assoc])) km_X8_init rfl rfl rfl k_238 k_239 rfl rfl (Nat.le_of_ble_eq_true rfl) (by decide) (fun _ _ _ q => q.elim) (fun r1 G2 I2 h2 => ?_)
  obtain ⟨e1, e2, z2, c2, o2⟩ := h2
  subst e1; subst e2
  have t2 : mx_tg G2 a = 15 := c2.tg (by simp [mx_tg_uR, mx_ln_uR, mx_rf_uR, mx_sz_uR, mx_tg_nw, mx_ln_nw, mx_rf_nw, mx_sz_nw, hz, ht, Nat.add_assoc]) (by omega) (by omega)
  have t3 : mx_tg G2 (a + 3) ≠ 0 := by rw [o2.1]; decide
  have q1 : mx_rf G2 a 0 = a + 1 ∧ mx_tg G2 (a + 1) = 1 ∧ mx_ln G2 (a + 1) = 8 := c2.ar (by refine ⟨?_, ?_, ?_⟩ <;> simp [mx_tg_uR, mx_ln_uR, mx_rf_uR, mx_sz_uR, mx_tg_nw, mx_ln_nw, mx_rf_nw, mx_sz_nw, hz, ht, Nat.add_assoc]) (by omega) (by omega) (by omega) (by omega)
  have q2 : mx_rf G2 a 3 = a + 2 ∧ mx_tg G2 (a + 2) = 1 ∧ mx_ln G2 (a + 2) = 8 := c2.ar (by refine ⟨?_, ?_, ?_⟩ <;> simp [mx_tg_uR, mx_ln_uR, mx_rf_uR, mx_sz_uR, mx_tg_nw, mx_ln_nw, mx_rf_nw, mx_sz_nw, hz, ht, Nat.add_assoc]) (by omega) (by omega) (by omega) (by omega)
  have c3 : mx_cr G G2 0 a := ((((((mx_cr.rf G 0 a).nw _ _ (by simp only [mx_sz_uR, mx_sz_nw, hz]; omega)).uR _ _ _ (by omega)).nw _ _ (by simp only [mx_sz_uR, mx_sz_nw, hz]; omega)).uR _ _ _ (by omega)).nw _ _ (by simp only [mx_sz_uR, mx_sz_nw, hz]; omega)).tr (c2.wk (by omega) (by omega))
  refine mx_putF (ci := 5) (k := 4) dX5_init_28 k_254 (by decide) rfl rfl rfl rfl (by first | exact t2 | (simp [mx_tg_uR, mx_ln_uR, mx_rf_uR, mx_sz_uR, mx_tg_nw, mx_ln_nw, mx_rf_nw, mx_sz_nw, hz, ht, Nat.add_assoc])) (by first | exact t3 | (simp [mx_tg_uR, mx_ln_uR, mx_rf_uR, mx_sz_uR, mx_tg_nw, mx_ln_nw, mx_rf_nw, mx_sz_nw, hz, ht, Nat.add_assoc])) ?_
  exact mx_vret dX5_init_31 rfl (⟨rfl, rfl, z2, c3.uR _ _ _ (by omega), t2, by simpa [mx_rf_uR, mx_tg_uR, mx_ln_uR] using q1, by simpa [mx_rf_uR, mx_tg_uR, mx_ln_uR] using q2, by simp [mx_rf_uR], o2.1, by simpa [mx_rf_uR] using o2.2.1, o2.2.2⟩)

set_option maxHeartbeats 4000000 in
set_option maxRecDepth 100000 in
theorem ct_newBest (G : mx_G) (I : mx_I) (a : Nat) (ht : mx_tg G a = 10) (hz : mx_sz G = a + 1) : mx_CT yX0_init mX0_init 3 4 257 [.ref a] G I (fun rv Gz Iz => rv = none ∧ I = Iz ∧ mx_sz Gz = a + 5 ∧ mx_cr G Gz 0 a ∧ oBP Gz a) (fun _ _ _ => False) := by
  refine mx_start (k := 0) (by decide) rfl rfl (fun _ => rfl) (Nat.le_of_ble_eq_true rfl) ?_
  show mx_V mX0_init mx_S0 3 4 257 0 [some (.ref a)] [] G I (fun rv Gz Iz => rv = none ∧ I = Iz ∧ mx_sz Gz = a + 5 ∧ mx_cr G Gz 0 a ∧ oBP Gz a) (fun _ _ _ => False)
  refine mx_aload_n (i := 0) (hi := rfl) (hl := rfl) (hd := dX0_init_0) ?_
  refine mx_objInit (hd := dX0_init_1) k_274 k_oi k_oc (by decide) (by decide) ?_
  refine mx_aload_n (i := 0) (hi := rfl) (hl := rfl) (hd := dX0_init_4) ?_
  refine mx_sipushN 168 dX0_init_5 (by decide) ?_
  refine mx_newaE (bc := 3) (bs := 89) (t := 1) (n := 168) (a := (a + 1)) (by first | rfl | omega) (by first | rfl | omega) dX0_init_8 rfl (by decide) k_ac_int rfl (by decide) (by show mx_sz G + 0 = a + 1; omega) ?_
  refine mx_putF (ci := 0) (k := 0) dX0_init_10 k_277 (by decide) rfl rfl rfl rfl (by first | exact t2 | (simp [mx_tg_uR, mx_ln_uR, mx_rf_uR, mx_sz_uR, mx_tg_nw, mx_ln_nw, mx_rf_nw, mx_sz_nw, hz, ht, Nat.add_assoc])) (by simp [mx_tg_uR, mx_ln_uR, mx_rf_uR, mx_sz_uR, mx_tg_nw, mx_ln_nw, mx_rf_nw, mx_sz_nw, hz, ht, Nat.add_assoc]) ?_
  refine mx_aload_n (i := 0) (hi := rfl) (hl := rfl) (hd := dX0_init_13) ?_
  refine mx_bipushN 8 dX0_init_14 (by decide) ?_
  refine mx_newaE (bc := 2) (bs := 81) (t := 1) (n := 8) (a := (a + 2)) (by first | rfl | omega) (by first | rfl | omega) dX0_init_16 rfl (by decide) k_ac_int rfl (by decide) (by show mx_sz G + 1 = a + 2; omega) ?_
  refine mx_putF (ci := 0) (k := 1) dX0_init_18 k_278 (by decide) rfl rfl rfl rfl (by first | exact t2 | (simp [mx_tg_uR, mx_ln_uR, mx_rf_uR, mx_sz_uR, mx_tg_nw, mx_ln_nw, mx_rf_nw, mx_sz_nw, hz, ht, Nat.add_assoc])) (by simp [mx_tg_uR, mx_ln_uR, mx_rf_uR, mx_sz_uR, mx_tg_nw, mx_ln_nw, mx_rf_nw, mx_sz_nw, hz, ht, Nat.add_assoc]) ?_
  refine mx_aload_n (i := 0) (hi := rfl) (hl := rfl) (hd := dX0_init_21) ?_
  refine mx_newE (bc := 1) (bs := 80) (ci := 8) (a := (a + 3)) (by first | rfl | omega) (by first | rfl | (show _ = _ + 1; omega)) dX0_init_22 k_275 nw_X8 (by decide) (by show mx_sz G + 2 = a + 3; omega) ?_
  refine mx_dup (hva := rfl) (hd := dX0_init_25) ?_
  refine mx_callIN (bc := 0) (bs := 0) (As := []) (rest := [.ref (a + 3), .ref a]) (b1 := 1) (b2 := 80) dX0_init_26 (ct_newWheel (mx_nw (mx_uR (mx_nw (mx_uR (mx_nw G 1 168) a 0 (a + 1)) 1 8) a 1 (a + 2)) 18 0) I (a + 3) (by simp [mx_tg_uR, mx_ln_uR, mx_rf_uR, mx_sz_uR, mx_tg_nw, mx_ln_nw, mx_rf_nw, mx_sz_nw, hz, ht, Nat.add_assoc]) (by simp [mx_tg_uR, mx_ln_uR, mx_rf_uR, mx_sz_uR, mx_tg_nw, mx_ln_nw, mx_rf_nw, mx_sz_nw, hz, ht, Nat.add_assoc])) km_X8_init rfl rfl rfl k_276 k_239 rfl rfl (Nat.le_of_ble_eq_true rfl) (by decide) (fun _ _ _ q => q.elim) (fun r1 G2 I2 h2 => ?_)
  obtain ⟨e1, e2, z2, c2, o2⟩ := h2
  subst e1; subst e2
  have t2 : mx_tg G2 a = 10 := c2.tg (by simp [mx_tg_uR, mx_ln_uR, mx_rf_uR, mx_sz_uR, mx_tg_nw, mx_ln_nw, mx_rf_nw, mx_sz_nw, hz, ht, Nat.add_assoc]) (by omega) (by omega)
  have t3 : mx_tg G2 (a + 3) ≠ 0 := by rw [o2.1]; decide
  have q1 : mx_rf G2 a 0 = a + 1 ∧ mx_tg G2 (a + 1) = 1 ∧ mx_ln G2 (a + 1) = 168 := c2.ar (by refine ⟨?_, ?_, ?_⟩ <;> simp [mx_tg_uR, mx_ln_uR, mx_rf_uR, mx_sz_uR, mx_tg_nw, mx_ln_nw, mx_rf_nw, mx_sz_nw, hz, ht, Nat.add_assoc]) (by omega) (by omega) (by omega) (by omega)
  have q2 : mx_rf G2 a 1 = a + 2 ∧ mx_tg G2 (a + 2) = 1 ∧ mx_ln G2 (a + 2) = 8 := c2.ar (by refine ⟨?_, ?_, ?_⟩ <;> simp [mx_tg_uR, mx_ln_uR, mx_rf_uR, mx_sz_uR, mx_tg_nw, mx_ln_nw, mx_rf_nw, mx_sz_nw, hz, ht, Nat.add_assoc]) (by omega) (by omega) (by omega) (by omega)
  have c3 : mx_cr G G2 0 a := ((((((mx_cr.rf G 0 a).nw _ _ (by simp only [mx_sz_uR, mx_sz_nw, hz]; omega)).uR _ _ _ (by omega)).nw _ _ (by simp only [mx_sz_uR, mx_sz_nw, hz]; omega)).uR _ _ _ (by omega)).nw _ _ (by simp only [mx_sz_uR, mx_sz_nw, hz]; omega)).tr (c2.wk (by omega) (by omega))
  refine mx_putF (ci := 0) (k := 2) dX0_init_29 k_279 (by decide) rfl rfl rfl rfl (by first | exact t2 | (simp [mx_tg_uR, mx_ln_uR, mx_rf_uR, mx_sz_uR, mx_tg_nw, mx_ln_nw, mx_rf_nw, mx_sz_nw, hz, ht, Nat.add_assoc])) (by first | exact t3 | (simp [mx_tg_uR, mx_ln_uR, mx_rf_uR, mx_sz_uR, mx_tg_nw, mx_ln_nw, mx_rf_nw, mx_sz_nw, hz, ht, Nat.add_assoc])) ?_
  exact mx_vret dX0_init_32 rfl (⟨rfl, rfl, z2, c3.uR _ _ _ (by omega), t2, by simpa [mx_rf_uR, mx_tg_uR, mx_ln_uR] using q1, by simpa [mx_rf_uR, mx_tg_uR, mx_ln_uR] using q2, by simp [mx_rf_uR], o2.1, by simpa [mx_rf_uR] using o2.2.1, o2.2.2⟩)

set_option maxHeartbeats 4000000 in
set_option maxRecDepth 100000 in
theorem ct_newHist (G : mx_G) (I : mx_I) (a : Nat) (ht : mx_tg G a = 11) (hz : mx_sz G = a + 1) (r : Nat) (hr : mx_tg G r ≠ 0) (hra : r < a) : mx_CT yX1_init mX1_init 3 71 1512 [.ref a, .ref r] G I (fun rv Gz Iz => rv = none ∧ I = Iz ∧ mx_sz Gz = a + 72 ∧ mx_cr G Gz 0 a ∧ oHI Gz a ∧ ∀ j, j < 14 → mx_rf Gz (a + 2 + 5 * j) 6 = r) (fun _ _ _ => False) := by
  refine mx_start (k := 1) (by decide) rfl rfl (fun _ => rfl) (Nat.le_of_ble_eq_true rfl) ?_
  show mx_V mX1_init mx_S0 3 71 1512 0 [some (.ref a), some (.ref r), none] [] G I (fun rv Gz Iz => rv = none ∧ I = Iz ∧ mx_sz Gz = a + 72 ∧ mx_cr G Gz 0 a ∧ oHI Gz a ∧ ∀ j, j < 14 → mx_rf Gz (a + 2 + 5 * j) 6 = r) (fun _ _ _ => False)
  have L15 : ∀ (fq : Nat) (i k : Nat) (G1 : mx_G), k < fq → (i + k = 14) → (mx_sz G1 = a + 2 + 5 * i) → (mx_cr G G1 0 a) → (mx_tg G1 a = 11) → (mx_rf G1 a 0 = a + 1) → (mx_tg G1 (a + 1) = 5) → (mx_ln G1 (a + 1) = 14) → (mx_tg G1 r ≠ 0) → (∀ j, j < i → mx_rf G1 (a + 1) j = a + 2 + 5 * j ∧ oST G1 (a + 2 + 5 * j) ∧ mx_rf G1 (a + 2 + 5 * j) 6 = r) → mx_V mX1_init mx_S0 3 (5 * k) (107 * k) 15 [some (.ref a), some (.ref r), some (.int (nI i))] [] G1 I (fun rv Gz Iz => rv = none ∧ I = Iz ∧ mx_sz Gz = a + 72 ∧ mx_cr G Gz 0 a ∧ oHI Gz a ∧ ∀ j, j < 14 → mx_rf Gz (a + 2 + 5 * j) 6 = r) (fun _ _ _ => False) := by
    intro fq
    induction fq with
    | zero => intro i k G1 hfu; exact absurd hfu (Nat.not_lt_zero _)
    | succ fq ih =>
      intro i k G1 hfu hik hz1 hc1 hg0 hg1 hg2 hg3 hr1 hal
      refine mx_iload_n (i := 2) (hi := rfl) (hl := rfl) (hd := dX1_init_15) ?_
      refine mx_bipushN 14 dX1_init_16 (by decide) ?_
      refine mx_cmpN_ge 41 dX1_init_18 (by decide) (by omega) (by omega) (fun c18 => ?_) (fun c18 => ?_)
      · skip
        exact mx_vret dX1_init_41 rfl (⟨rfl, rfl, by omega, hc1, ⟨hg0, hg1, hg2, hg3, fun j hj => ⟨(hal j (by omega)).1, (hal j (by omega)).2.1⟩⟩, fun j hj => (hal j (by omega)).2.2⟩)
      · skip
        obtain ⟨k, rfl⟩ : ∃ q, k = q + 1 := ⟨k - 1, by omega⟩
        refine mx_aload_n (i := 0) (hi := rfl) (hl := rfl) (hd := dX1_init_21) ?_
        refine mx_getR (ci := 1) (k := 0) (r := (a + 1)) dX1_init_22 k_219 (by decide) rfl (by assumption) (hg1) (by omega) ?_
        refine mx_iload_n (i := 2) (hi := rfl) (hl := rfl) (hd := dX1_init_25) ?_
        refine mx_newE (bc := 5 * k + 4) (bs := 107 * k + 100) (ci := 6) (a := (a + 2 + 5 * i)) (by first | rfl | omega) (by first | rfl | (show _ = _ + 7; omega)) dX1_init_26 k_216 nw_X6 (by decide) (by show mx_sz G1 + 0 = a + 2 + 5 * i; omega) ?_
        refine mx_dup (hva := rfl) (hd := dX1_init_29) ?_
        refine mx_aload_n (i := 1) (hi := rfl) (hl := rfl) (hd := dX1_init_30) ?_
        refine mx_callI (bc := 5 * k) (bs := 107 * k) (As := [.ref r]) (rest := [.ref (a + 2 + 5 * i), .int (nI i), .ref (a + 1)]) (b1 := 4) (b2 := 100) dX1_init_31 (ct_newState _ I (a + 2 + 5 * i) (by simp [mx_tg_nw, hz1]) (by simp [mx_sz_nw, hz1]) r (by rw [mx_tg_nw, if_neg (by omega)]; exact hr1) (by omega)) km_X6_init rfl rfl rfl k_218 k_160 rfl rfl (Nat.le_of_ble_eq_true rfl) (by decide) (fun _ _ _ q => q.elim) (fun r1 G2 I2 h2 => ?_)
        obtain ⟨e1, e2, z2, c2, o2, r2⟩ := h2
        subst e1; subst e2
        have c3 : mx_cr G1 G2 0 (a + 2 + 5 * i) := ((mx_cr.rf G1 0 (a + 2 + 5 * i)).nw _ _ (by omega)).tr c2
        have t2 : mx_tg G2 (a + 1) = 5 := c3.tg hg2 (by omega) (by omega)
        have t3 : mx_tg G2 (a + 2 + 5 * i) = 6 + 10 := o2.1
        have l3 : mx_ln G2 (a + 1) = 14 := (c3 (a + 1) (by omega) (by omega)).2.1.trans hg3
        refine mx_aast (ci := 6) i dX1_init_34 (by assumption) (by decide) ⟨rfl, by omega, by omega⟩ (by assumption) ?_
        refine mx_iincE (i := 2) (ls' := [some (.ref a), some (.ref r), some (.int (nI (i + 1)))]) 1 dX1_init_35 rfl (by decide) (by decide) rfl rfl ?_
        have hnx : ∀ j, j < i + 1 → mx_rf (mx_uR G2 (a + 1) i (a + 2 + 5 * i)) (a + 1) j = a + 2 + 5 * j ∧ oST (mx_uR G2 (a + 1) i (a + 2 + 5 * i)) (a + 2 + 5 * j) ∧ mx_rf (mx_uR G2 (a + 1) i (a + 2 + 5 * i)) (a + 2 + 5 * j) 6 = r := by
          intro j hj
          by_cases hji : j = i
          · subst hji
            exact ⟨by rw [mx_rf_uR, if_pos ⟨rfl, rfl⟩], o2.cr ((mx_cr.rf G2 (a + 2 + 5 * j) (a + 7 + 5 * j)).uR _ _ _ (by omega)) (by omega) (by omega), by rw [mx_rf_uR, if_neg (by omega)]; exact r2⟩
          · obtain ⟨w1, w2, w3⟩ := hal j (by omega)
            refine ⟨by rw [mx_rf_uR, if_neg (by omega)]; exact c3.r w1 (by omega) (by omega), ?_, by rw [mx_rf_uR, if_neg (by omega)]; exact c3.r w3 (by omega) (by omega)⟩
            have c4 : mx_cr G1 G2 (a + 2) (a + 2 + 5 * i) := c3.wk (by omega) (by omega)
            have c5 : mx_cr G1 (mx_uR G2 (a + 1) i (a + 2 + 5 * i)) (a + 2) (a + 2 + 5 * i) := c4.uR _ _ _ (by omega)
            exact w2.cr c5 (by omega) (by omega)
        refine mx_goto (tgt := 15) dX1_init_38 (by decide) ?_
        exact ih (i + 1) k (mx_uR G2 (a + 1) i (a + 2 + 5 * i)) (by omega) (by omega) (by show mx_sz G2 = _; omega) ((hc1.tr (c3.wk (by omega) (by omega))).uR _ _ _ (by omega)) (c3.tg hg0 (by omega) (by omega)) (by rw [mx_rf_uR, if_neg (by omega)]; exact c3.r hg1 (by omega) (by omega)) t2 l3 (by show mx_tg G2 r ≠ 0; rw [c3.tg rfl (by omega) (by omega)]; exact hr1) hnx
  refine mx_aload_n (i := 0) (hi := rfl) (hl := rfl) (hd := dX1_init_0) ?_
  refine mx_objInit (hd := dX1_init_1) k_215 k_oi k_oc (by decide) (by decide) ?_
  refine mx_aload_n (i := 0) (hi := rfl) (hl := rfl) (hd := dX1_init_4) ?_
  refine mx_bipushN 14 dX1_init_5 (by decide) ?_
  refine mx_anewE (bc := 70) (bs := 1498) (t := 5) (n := 14) (a := (a + 1)) (by first | rfl | omega) (by first | rfl | omega) dX1_init_7 rfl (by decide) k_216 (by decide) rfl (by decide) (by show mx_sz G + 0 = a + 1; omega) ?_
  refine mx_putF (ci := 1) (k := 0) dX1_init_10 k_219 (by decide) rfl rfl rfl rfl (by simp [mx_tg_uR, mx_ln_uR, mx_rf_uR, mx_sz_uR, mx_tg_nw, mx_ln_nw, mx_rf_nw, mx_sz_nw, hz, ht, Nat.add_assoc]) (by simp [mx_tg_uR, mx_ln_uR, mx_rf_uR, mx_sz_uR, mx_tg_nw, mx_ln_nw, mx_rf_nw, mx_sz_nw, hz, ht, Nat.add_assoc]) ?_
  refine mx_iconstN 0 dX1_init_13 (by decide) ?_
  refine mx_istoreE_n (i := 2) (ls' := [some (.ref a), some (.ref r), some (.int (nI 0))]) (hi := rfl) (hd := dX1_init_14) (hn := by decide) (hok := rfl) (hls := rfl) ?_
  exact L15 _ 0 14 (mx_uR (mx_nw G 5 14) a 0 (a + 1)) (Nat.lt_succ_self _) rfl (by simp [mx_tg_uR, mx_ln_uR, mx_rf_uR, mx_sz_uR, mx_tg_nw, mx_ln_nw, mx_rf_nw, mx_sz_nw, hz, ht, Nat.add_assoc]) (((mx_cr.rf G 0 a).nw _ _ (by simp only [mx_sz_uR, mx_sz_nw, hz]; omega)).uR _ _ _ (by omega)) (by simp [mx_tg_uR, mx_ln_uR, mx_rf_uR, mx_sz_uR, mx_tg_nw, mx_ln_nw, mx_rf_nw, mx_sz_nw, hz, ht, Nat.add_assoc]) (by simp [mx_tg_uR, mx_ln_uR, mx_rf_uR, mx_sz_uR, mx_tg_nw, mx_ln_nw, mx_rf_nw, mx_sz_nw, hz, ht, Nat.add_assoc]) (by simp [mx_tg_uR, mx_ln_uR, mx_rf_uR, mx_sz_uR, mx_tg_nw, mx_ln_nw, mx_rf_nw, mx_sz_nw, hz, ht, Nat.add_assoc]) (by simp [mx_tg_uR, mx_ln_uR, mx_rf_uR, mx_sz_uR, mx_tg_nw, mx_ln_nw, mx_rf_nw, mx_sz_nw, hz, ht, Nat.add_assoc]) (by simp [mx_tg_uR, mx_ln_uR, mx_rf_uR, mx_sz_uR, mx_tg_nw, mx_ln_nw, mx_rf_nw, mx_sz_nw, hz, ht, Nat.add_assoc, show r ≠ a + 1 from by omega]; exact hr) (fun j hj => absurd hj (Nat.not_lt_zero j))

set_option maxHeartbeats 4000000 in
set_option maxRecDepth 100000 in
theorem ct_newReader (G : mx_G) (I : mx_I) (a : Nat) (ht : mx_tg G a = 13) (hz : mx_sz G = a + 1) : mx_CT yX3_init mX3_init 3 28 180 [.ref a] G I (fun rv Gz Iz => rv = none ∧ Iz = mx_u I (a + 4) 6 (nI 1) ∧ mx_sz Gz = a + 29 ∧ mx_cr G Gz 0 a ∧ oRD Gz a ∧ mx_rf Gz a 3 = a + 4 ∧ oPT Gz (a + 4)) (fun _ _ _ => False) := by
  refine mx_start (k := 1) (by decide) rfl rfl (fun _ => rfl) (Nat.le_of_ble_eq_true rfl) ?_
  show mx_V mX3_init mx_S0 3 28 180 0 [some (.ref a), none] [] G I (fun rv Gz Iz => rv = none ∧ Iz = mx_u I (a + 4) 6 (nI 1) ∧ mx_sz Gz = a + 29 ∧ mx_cr G Gz 0 a ∧ oRD Gz a ∧ mx_rf Gz a 3 = a + 4 ∧ oPT Gz (a + 4)) (fun _ _ _ => False)
  have L46 : ∀ (fq : Nat) (i k : Nat) (G1 : mx_G), k < fq → (i + k = 10) → (mx_sz G1 = a + 9 + 2 * i) → (mx_cr G G1 0 a) → (mx_tg G1 a = 13) → (mx_rf G1 a 0 = a + 1) → (mx_tg G1 (a + 1) = 6) → (mx_ln G1 (a + 1) = 10) → (mx_rf G1 a 1 = a + 2) → (mx_tg G1 (a + 2) = 6) → (mx_ln G1 (a + 2) = 10) → (mx_rf G1 a 2 = a + 3) → (mx_tg G1 (a + 3) = 14) → (mx_rf G1 a 3 = a + 4) → (oPT G1 (a + 4)) → (∀ j, j < i → (mx_rf G1 (a + 1) j = a + 9 + 2 * j ∧ mx_tg G1 (a + 9 + 2 * j) = 14) ∧ (mx_rf G1 (a + 2) j = a + 10 + 2 * j ∧ mx_tg G1 (a + 10 + 2 * j) = 14)) → mx_V mX3_init mx_S0 3 (2 * k) (6 * k) 46 [some (.ref a), some (.int (nI i))] [] G1 (mx_u I (a + 4) 6 (nI 1)) (fun rv Gz Iz => rv = none ∧ Iz = mx_u I (a + 4) 6 (nI 1) ∧ mx_sz Gz = a + 29 ∧ mx_cr G Gz 0 a ∧ oRD Gz a ∧ mx_rf Gz a 3 = a + 4 ∧ oPT Gz (a + 4)) (fun _ _ _ => False) := by
    intro fq
    induction fq with
    | zero => intro i k G1 hfu; exact absurd hfu (Nat.not_lt_zero _)
    | succ fq ih =>
      intro i k G1 hfu hik hz1 hc1 hg0 hg1 hg2 hg3 hg4 hg5 hg6 hg7 hg8 hg9 ho hal
      refine mx_iload_n (i := 1) (hi := rfl) (hl := rfl) (hd := dX3_init_46) ?_
      refine mx_bipushN 9 dX3_init_47 (by decide) ?_
      refine mx_cmpN_gt 84 dX3_init_49 (by decide) (by omega) (by omega) (fun c49 => ?_) (fun c49 => ?_)
      · skip
        exact mx_vret dX3_init_84 rfl (⟨rfl, rfl, by omega, hc1, ⟨hg0, ⟨hg1, hg2, hg3⟩, ⟨hg4, hg5, hg6⟩, ⟨hg7, hg8⟩, fun j hj => hal j (by omega)⟩, hg9, ho⟩)
      · skip
        obtain ⟨k, rfl⟩ : ∃ q, k = q + 1 := ⟨k - 1, by omega⟩
        refine mx_aload_n (i := 0) (hi := rfl) (hl := rfl) (hd := dX3_init_52) ?_
        refine mx_getR (ci := 3) (k := 0) (r := (a + 1)) dX3_init_53 k_141 (by decide) rfl (by assumption) (hg1) (by omega) ?_
        refine mx_iload_n (i := 1) (hi := rfl) (hl := rfl) (hd := dX3_init_56) ?_
        refine mx_newE (bc := 2 * k + 1) (bs := 6 * k + 3) (ci := 4) (a := (a + 9 + 2 * i)) (by first | rfl | omega) (by first | rfl | (show _ = _ + 3; omega)) dX3_init_57 k_119 nw_X4 (by decide) (by show mx_sz G1 + 0 = a + 9 + 2 * i; omega) ?_
        refine mx_dup (hva := rfl) (hd := dX3_init_60) ?_
        refine mx_callIN (bc := 2 * k + 1) (bs := 6 * k + 3) (As := []) (rest := [.ref (a + 9 + 2 * i), .int (nI i), .ref (a + 1)]) (b1 := 0) (b2 := 0) dX3_init_61 (ct_newPiece (mx_nw G1 14 0) _ (a + 9 + 2 * i) (by rw [mx_tg_nw, if_pos hz1.symm]) (by rw [mx_sz_nw, hz1])) km_X4_init rfl rfl rfl k_122 k_123 rfl rfl (Nat.le_of_ble_eq_true rfl) (by decide) (fun _ _ _ q => q.elim) (fun r1 Gp Ip h2 => ?_)
        obtain ⟨e1, e2, e3⟩ := h2
        subst e1; subst e2; subst e3
        have ca : mx_cr G1 (mx_nw G1 14 0) 0 (a + 9 + 2 * i) := (mx_cr.rf G1 0 (a + 9 + 2 * i)).nw 14 0 (by omega)
        have ta1 : mx_tg (mx_nw G1 14 0) (a + 1) = 6 := ca.tg hg2 (by omega) (by omega)
        have ta2 : mx_tg (mx_nw G1 14 0) (a + 9 + 2 * i) = 4 + 10 := by rw [mx_tg_nw, if_pos hz1.symm]
        have ta3 : mx_ln (mx_nw G1 14 0) (a + 1) = 10 := (ca (a + 1) (by omega) (by omega)).2.1.trans hg3
        refine mx_aast (ci := 4) i dX3_init_64 (by assumption) (by decide) ⟨rfl, by omega, by omega⟩ (by assumption) ?_
        have tb0 : mx_tg (mx_uR (mx_nw G1 14 0) (a + 1) i (a + 9 + 2 * i)) a = 13 := ca.tg hg0 (by omega) (by omega)
        have tb1 : mx_rf (mx_uR (mx_nw G1 14 0) (a + 1) i (a + 9 + 2 * i)) a 1 = a + 2 := by rw [mx_rf_uR, if_neg (by omega)]; exact ca.r hg4 (by omega) (by omega)
        have tb2 : mx_tg (mx_uR (mx_nw G1 14 0) (a + 1) i (a + 9 + 2 * i)) (a + 2) = 6 := ca.tg hg5 (by omega) (by omega)
        refine mx_aload_n (i := 0) (hi := rfl) (hl := rfl) (hd := dX3_init_65) ?_
        refine mx_getR (ci := 3) (k := 1) (r := (a + 2)) dX3_init_66 k_142 (by decide) rfl (by assumption) (tb1) (by omega) ?_
        refine mx_iload_n (i := 1) (hi := rfl) (hl := rfl) (hd := dX3_init_69) ?_
        have zb : mx_sz (mx_uR (mx_nw G1 14 0) (a + 1) i (a + 9 + 2 * i)) = a + 10 + 2 * i := by show mx_sz G1 + 1 = _; omega
        refine mx_newE (bc := 2 * k) (bs := 6 * k) (ci := 4) (a := (a + 10 + 2 * i)) (by first | rfl | omega) (by first | rfl | (show _ = _ + 3; omega)) dX3_init_70 k_119 nw_X4 (by decide) (by show mx_sz (mx_uR (mx_nw G1 14 0) (a + 1) i (a + 9 + 2 * i)) + 0 = a + 10 + 2 * i; omega) ?_
        refine mx_dup (hva := rfl) (hd := dX3_init_73) ?_
        refine mx_callIN (bc := 2 * k) (bs := 6 * k) (As := []) (rest := [.ref (a + 10 + 2 * i), .int (nI i), .ref (a + 2)]) (b1 := 0) (b2 := 0) dX3_init_74 (ct_newPiece (mx_nw (mx_uR (mx_nw G1 14 0) (a + 1) i (a + 9 + 2 * i)) 14 0) _ (a + 10 + 2 * i) (by rw [mx_tg_nw, if_pos zb.symm]) (by rw [mx_sz_nw, zb])) km_X4_init rfl rfl rfl k_122 k_123 rfl rfl (Nat.le_of_ble_eq_true rfl) (by decide) (fun _ _ _ q => q.elim) (fun r3 Gp Ip h4 => ?_)
        obtain ⟨e1, e2, e3⟩ := h4
        subst e1; subst e2; subst e3
        have cc : mx_cr (mx_uR (mx_nw G1 14 0) (a + 1) i (a + 9 + 2 * i)) (mx_nw (mx_uR (mx_nw G1 14 0) (a + 1) i (a + 9 + 2 * i)) 14 0) 0 (a + 10 + 2 * i) := (mx_cr.rf (mx_uR (mx_nw G1 14 0) (a + 1) i (a + 9 + 2 * i)) 0 (a + 10 + 2 * i)).nw 14 0 (by omega)
        have tc1 : mx_tg (mx_nw (mx_uR (mx_nw G1 14 0) (a + 1) i (a + 9 + 2 * i)) 14 0) (a + 2) = 6 := cc.tg (ca.tg hg5 (by omega) (by omega)) (by omega) (by omega)
        have tc2 : mx_tg (mx_nw (mx_uR (mx_nw G1 14 0) (a + 1) i (a + 9 + 2 * i)) 14 0) (a + 10 + 2 * i) = 4 + 10 := by rw [mx_tg_nw, if_pos zb.symm]
        have tc3 : mx_ln (mx_nw (mx_uR (mx_nw G1 14 0) (a + 1) i (a + 9 + 2 * i)) 14 0) (a + 2) = 10 := (cc (a + 2) (by omega) (by omega)).2.1.trans ((ca (a + 2) (by omega) (by omega)).2.1.trans hg6)
        refine mx_aast (ci := 4) i dX3_init_77 (by assumption) (by decide) ⟨rfl, by omega, by omega⟩ (by assumption) ?_
        refine mx_iincE (i := 1) (ls' := [some (.ref a), some (.int (nI (i + 1)))]) 1 dX3_init_78 rfl (by decide) (by decide) rfl rfl ?_
        have c0 : mx_cr G1 (mx_uR (mx_nw (mx_uR (mx_nw G1 14 0) (a + 1) i (a + 9 + 2 * i)) 14 0) (a + 2) i (a + 10 + 2 * i)) 0 (a + 1) := ((((ca.wk (Nat.le_refl 0) (by omega)).uR _ _ _ (by omega)).tr (cc.wk (Nat.le_refl 0) (by omega))).uR _ _ _ (by omega))
        have c9 : mx_cr G1 (mx_uR (mx_nw (mx_uR (mx_nw G1 14 0) (a + 1) i (a + 9 + 2 * i)) 14 0) (a + 2) i (a + 10 + 2 * i)) (a + 3) (a + 9 + 2 * i) := ((((ca.wk (by omega) (Nat.le_refl _)).uR _ _ _ (by omega)).tr (cc.wk (by omega) (by omega))).uR _ _ _ (by omega))
        have hnx : ∀ j, j < i + 1 → (mx_rf (mx_uR (mx_nw (mx_uR (mx_nw G1 14 0) (a + 1) i (a + 9 + 2 * i)) 14 0) (a + 2) i (a + 10 + 2 * i)) (a + 1) j = a + 9 + 2 * j ∧ mx_tg (mx_uR (mx_nw (mx_uR (mx_nw G1 14 0) (a + 1) i (a + 9 + 2 * i)) 14 0) (a + 2) i (a + 10 + 2 * i)) (a + 9 + 2 * j) = 14) ∧ (mx_rf (mx_uR (mx_nw (mx_uR (mx_nw G1 14 0) (a + 1) i (a + 9 + 2 * i)) 14 0) (a + 2) i (a + 10 + 2 * i)) (a + 2) j = a + 10 + 2 * j ∧ mx_tg (mx_uR (mx_nw (mx_uR (mx_nw G1 14 0) (a + 1) i (a + 9 + 2 * i)) 14 0) (a + 2) i (a + 10 + 2 * i)) (a + 10 + 2 * j) = 14) := by
          intro j hj
          by_cases hji : j = i
          · subst hji
            exact ⟨⟨by rw [mx_rf_uR, if_neg (by omega), mx_rf_nw, mx_rf_uR, if_pos ⟨rfl, rfl⟩], cc.tg ta2 (by omega) (by omega)⟩, by rw [mx_rf_uR, if_pos ⟨rfl, rfl⟩], tc2⟩
          · obtain ⟨⟨w1, w2⟩, w3, w4⟩ := hal j (by omega)
            exact ⟨⟨by rw [mx_rf_uR, if_neg (by omega), mx_rf_nw, mx_rf_uR, if_neg (by omega), mx_rf_nw]; exact w1, c9.tg w2 (by omega) (by omega)⟩, by rw [mx_rf_uR, if_neg (by omega), mx_rf_nw, mx_rf_uR, if_neg (by omega), mx_rf_nw]; exact w3, c9.tg w4 (by omega) (by omega)⟩
        refine mx_goto (tgt := 46) dX3_init_81 (by decide) ?_
        exact ih (i + 1) k (mx_uR (mx_nw (mx_uR (mx_nw G1 14 0) (a + 1) i (a + 9 + 2 * i)) 14 0) (a + 2) i (a + 10 + 2 * i)) (by omega) (by omega) (by show mx_sz (mx_uR (mx_nw G1 14 0) (a + 1) i (a + 9 + 2 * i)) + 1 = _; omega) (hc1.tr (c0.wk (Nat.le_refl 0) (by omega))) (c0.tg hg0 (by omega) (by omega)) (c0.r hg1 (by omega) (by omega)) (cc.tg ta1 (by omega) (by omega)) ((cc (a + 1) (by omega) (by omega)).2.1.trans ta3) (c0.r hg4 (by omega) (by omega)) tc1 tc3 (c0.r hg7 (by omega) (by omega)) (c9.tg hg8 (by omega) (by omega)) (c0.r hg9 (by omega) (by omega)) (ho.cr c9 (by omega) (by omega)) hnx
  refine mx_aload_n (i := 0) (hi := rfl) (hl := rfl) (hd := dX3_init_0) ?_
  refine mx_objInit (hd := dX3_init_1) k_118 k_oi k_oc (by decide) (by decide) ?_
  refine mx_aload_n (i := 0) (hi := rfl) (hl := rfl) (hd := dX3_init_4) ?_
  refine mx_bipushN 10 dX3_init_5 (by decide) ?_
  refine mx_anewE (bc := 27) (bs := 170) (t := 6) (n := 10) (a := (a + 1)) (by first | rfl | omega) (by first | rfl | omega) dX3_init_7 rfl (by decide) k_119 (by decide) rfl (by decide) (by show mx_sz G + 0 = a + 1; omega) ?_
  refine mx_putF (ci := 3) (k := 0) dX3_init_10 k_141 (by decide) rfl rfl rfl rfl (by first | exact t2 | (simp [mx_tg_uR, mx_ln_uR, mx_rf_uR, mx_sz_uR, mx_tg_nw, mx_ln_nw, mx_rf_nw, mx_sz_nw, hz, ht, Nat.add_assoc])) (by simp [mx_tg_uR, mx_ln_uR, mx_rf_uR, mx_sz_uR, mx_tg_nw, mx_ln_nw, mx_rf_nw, mx_sz_nw, hz, ht, Nat.add_assoc]) ?_
  refine mx_aload_n (i := 0) (hi := rfl) (hl := rfl) (hd := dX3_init_13) ?_
  refine mx_bipushN 10 dX3_init_14 (by decide) ?_
  refine mx_anewE (bc := 26) (bs := 160) (t := 6) (n := 10) (a := (a + 2)) (by first | rfl | omega) (by first | rfl | omega) dX3_init_16 rfl (by decide) k_119 (by decide) rfl (by decide) (by show mx_sz G + 1 = a + 2; omega) ?_
  refine mx_putF (ci := 3) (k := 1) dX3_init_19 k_142 (by decide) rfl rfl rfl rfl (by first | exact t2 | (simp [mx_tg_uR, mx_ln_uR, mx_rf_uR, mx_sz_uR, mx_tg_nw, mx_ln_nw, mx_rf_nw, mx_sz_nw, hz, ht, Nat.add_assoc])) (by simp [mx_tg_uR, mx_ln_uR, mx_rf_uR, mx_sz_uR, mx_tg_nw, mx_ln_nw, mx_rf_nw, mx_sz_nw, hz, ht, Nat.add_assoc]) ?_
  refine mx_aload_n (i := 0) (hi := rfl) (hl := rfl) (hd := dX3_init_22) ?_
  refine mx_newE (bc := 25) (bs := 157) (ci := 4) (a := (a + 3)) (by first | rfl | omega) (by first | rfl | (show _ = _ + 3; omega)) dX3_init_23 k_119 nw_X4 (by decide) (by show mx_sz G + 2 = a + 3; omega) ?_
  refine mx_dup (hva := rfl) (hd := dX3_init_26) ?_
  refine mx_callIN (bc := 25) (bs := 157) (As := []) (rest := [.ref (a + 3), .ref a]) (b1 := 0) (b2 := 0) dX3_init_27 (ct_newPiece (mx_nw (mx_uR (mx_nw (mx_uR (mx_nw G 6 10) a 0 (a + 1)) 6 10) a 1 (a + 2)) 14 0) _ (a + 3) (by simp [mx_tg_uR, mx_ln_uR, mx_rf_uR, mx_sz_uR, mx_tg_nw, mx_ln_nw, mx_rf_nw, mx_sz_nw, hz, ht, Nat.add_assoc]) (by simp [mx_tg_uR, mx_ln_uR, mx_rf_uR, mx_sz_uR, mx_tg_nw, mx_ln_nw, mx_rf_nw, mx_sz_nw, hz, ht, Nat.add_assoc])) km_X4_init rfl rfl rfl k_122 k_123 rfl rfl (Nat.le_of_ble_eq_true rfl) (by decide) (fun _ _ _ q => q.elim) (fun r5 Gp Ip h6 => ?_)
  obtain ⟨e1, e2, e3⟩ := h6
  subst e1; subst e2; subst e3
  refine mx_putF (ci := 3) (k := 2) dX3_init_30 k_143 (by decide) rfl rfl rfl rfl (by first | exact t2 | (simp [mx_tg_uR, mx_ln_uR, mx_rf_uR, mx_sz_uR, mx_tg_nw, mx_ln_nw, mx_rf_nw, mx_sz_nw, hz, ht, Nat.add_assoc])) (by simp [mx_tg_uR, mx_ln_uR, mx_rf_uR, mx_sz_uR, mx_tg_nw, mx_ln_nw, mx_rf_nw, mx_sz_nw, hz, ht, Nat.add_assoc]) ?_
  refine mx_aload_n (i := 0) (hi := rfl) (hl := rfl) (hd := dX3_init_33) ?_
  refine mx_newE (bc := 24) (bs := 150) (ci := 2) (a := (a + 4)) (by first | rfl | omega) (by first | rfl | (show _ = _ + 7; omega)) dX3_init_34 k_139 nw_X2 (by decide) (by show mx_sz G + 3 = a + 4; omega) ?_
  refine mx_dup (hva := rfl) (hd := dX3_init_37) ?_
  refine mx_callIN (bc := 20) (bs := 60) (As := []) (rest := [.ref (a + 4), .ref a]) (b1 := 4) (b2 := 90) dX3_init_38 (ct_newPattern (mx_nw (mx_uR (mx_nw (mx_uR (mx_nw (mx_uR (mx_nw G 6 10) a 0 (a + 1)) 6 10) a 1 (a + 2)) 14 0) a 2 (a + 3)) 12 0) I (a + 4) (by simp [mx_tg_uR, mx_ln_uR, mx_rf_uR, mx_sz_uR, mx_tg_nw, mx_ln_nw, mx_rf_nw, mx_sz_nw, hz, ht, Nat.add_assoc]) (by simp [mx_tg_uR, mx_ln_uR, mx_rf_uR, mx_sz_uR, mx_tg_nw, mx_ln_nw, mx_rf_nw, mx_sz_nw, hz, ht, Nat.add_assoc])) km_X2_init rfl rfl rfl k_140 k_77 rfl rfl (Nat.le_of_ble_eq_true rfl) (by decide) (fun _ _ _ q => q.elim) (fun r7 G2 I2 h8 => ?_)
  obtain ⟨e1, e2, z2, c2, o2⟩ := h8
  subst e1; subst e2
  have t2 : mx_tg G2 a = 13 := c2.tg (by simp [mx_tg_uR, mx_ln_uR, mx_rf_uR, mx_sz_uR, mx_tg_nw, mx_ln_nw, mx_rf_nw, mx_sz_nw, hz, ht, Nat.add_assoc]) (by omega) (by omega)
  have t3 : mx_tg G2 (a + 4) ≠ 0 := by rw [o2.1]; decide
  have q1 : mx_rf G2 a 0 = a + 1 ∧ mx_tg G2 (a + 1) = 6 ∧ mx_ln G2 (a + 1) = 10 := c2.ar (by refine ⟨?_, ?_, ?_⟩ <;> simp [mx_tg_uR, mx_ln_uR, mx_rf_uR, mx_sz_uR, mx_tg_nw, mx_ln_nw, mx_rf_nw, mx_sz_nw, hz, ht, Nat.add_assoc]) (by omega) (by omega) (by omega) (by omega)
  have q2 : mx_rf G2 a 1 = a + 2 ∧ mx_tg G2 (a + 2) = 6 ∧ mx_ln G2 (a + 2) = 10 := c2.ar (by refine ⟨?_, ?_, ?_⟩ <;> simp [mx_tg_uR, mx_ln_uR, mx_rf_uR, mx_sz_uR, mx_tg_nw, mx_ln_nw, mx_rf_nw, mx_sz_nw, hz, ht, Nat.add_assoc]) (by omega) (by omega) (by omega) (by omega)
  have q3 : mx_rf G2 a 2 = a + 3 := c2.r (by simp [mx_tg_uR, mx_ln_uR, mx_rf_uR, mx_sz_uR, mx_tg_nw, mx_ln_nw, mx_rf_nw, mx_sz_nw, hz, ht, Nat.add_assoc]) (by omega) (by omega)
  have q4 : mx_tg G2 (a + 3) = 14 := c2.tg (by simp [mx_tg_uR, mx_ln_uR, mx_rf_uR, mx_sz_uR, mx_tg_nw, mx_ln_nw, mx_rf_nw, mx_sz_nw, hz, ht, Nat.add_assoc]) (by omega) (by omega)
  have c3 : mx_cr G G2 0 a := ((((((((mx_cr.rf G 0 a).nw _ _ (by simp only [mx_sz_uR, mx_sz_nw, hz]; omega)).uR _ _ _ (by omega)).nw _ _ (by simp only [mx_sz_uR, mx_sz_nw, hz]; omega)).uR _ _ _ (by omega)).nw _ _ (by simp only [mx_sz_uR, mx_sz_nw, hz]; omega)).uR _ _ _ (by omega)).nw _ _ (by simp only [mx_sz_uR, mx_sz_nw, hz]; omega)).tr (c2.wk (by omega) (by omega))
  have ca : mx_cr G2 (mx_uR G2 a 3 (a + 4)) (a + 1) (a + 9) := (mx_cr.rf G2 (a + 1) (a + 9)).uR _ _ _ (by omega)
  refine mx_putR (ci := 3) (k := 3) dX3_init_41 k_144 (by decide) rfl rfl (by first | exact t2 | (simp [mx_tg_uR, mx_ln_uR, mx_rf_uR, mx_sz_uR, mx_tg_nw, mx_ln_nw, mx_rf_nw, mx_sz_nw, hz, ht, Nat.add_assoc])) (t3) ?_
  refine mx_iconstN 0 dX3_init_44 (by decide) ?_
  refine mx_istoreE_n (i := 1) (ls' := [some (.ref a), some (.int (nI 0))]) (hi := rfl) (hd := dX3_init_45) (hn := by decide) (hok := rfl) (hls := rfl) ?_
  exact L46 _ 0 10 (mx_uR G2 a 3 (a + 4)) (Nat.lt_succ_self _) rfl z2 (c3.uR _ _ _ (by omega)) t2 (by simpa [mx_rf_uR] using q1.1) q1.2.1 q1.2.2 (by simpa [mx_rf_uR] using q2.1) q2.2.1 q2.2.2 (by simpa [mx_rf_uR] using q3) q4 (by simp [mx_rf_uR]) (o2.cr ca (by omega) (by omega)) (fun j hj => absurd hj (Nat.not_lt_zero j))
