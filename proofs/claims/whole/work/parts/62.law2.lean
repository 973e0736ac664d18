/-! THE LAW: its wrappers -/
theorem rg_append (z : Zs) (c : Int32) : fl_append z c = 0 ∨ fl_append z c = 2 ∨ fl_append z c = 3 := by
  unfold fl_append
  (repeat' split) <;> simp
theorem mz_append (z : Zs) (c : Int32) (h : fl_append z c - 1 = 0) : fl_append z c = 0 := by
  have h1 := rg_append z c
  first | omega | (rcases h1 with e | e | e <;> (rw [e] at h ⊢ <;> first | rfl | exact absurd h (by decide)))
set_option maxHeartbeats 400000 in
set_option maxRecDepth 100000 in
theorem lw_append (G : mx_G) (I : mx_I) (a o : Nat) (z : Zs) (hW : cW G I a z) (ho : mx_tg G o = 4) (hl : mx_ln G o = 1) (c : Int32) : mx_CT yL_append mL_append 9 2 12 [.ref a, .int c, .ref o] G I (fun rv Gz Iz => lwQ G I a o z (fl_append z c - 1) (nI (zN z + 1)) (nx_append z c) rv Gz Iz) (fun _ _ _ => False) := by
  refine mx_startH (k := 1) (by decide) rfl rfl (fun h => nomatch h) (Nat.le_of_ble_eq_true rfl) ?_
  show mx_V mL_append mx_S0 9 2 12 0 [some (.ref a), some (.int c), some (.ref o), none] [] G I (fun rv Gz Iz => lwQ G I a o z (fl_append z c - 1) (nI (zN z + 1)) (nx_append z c) rv Gz Iz) (fun _ _ _ => False)
  have tg9 : mx_tg G a = 19 := hW.1.1.1
  refine mx_aload_n (i := 2) (hi := rfl) (hl := rfl) (hd := dL_append_0) ?_
  refine mx_iconstN 0 dL_append_1 (by decide) ?_
  refine mx_aload_n (i := 0) (hi := rfl) (hl := rfl) (hd := dL_append_2) ?_
  refine mx_iload_n (i := 1) (hi := rfl) (hl := rfl) (hd := dL_append_3) ?_
  refine mx_callV (bc := 0) (bs := 0) (ci := 9) (As := [.int c]) (rest := [.int (nI 0), .ref o]) (b1 := 2) (b2 := 12) dL_append_4 (ct_append G I a z hW c) km_X9_append rfl k_408 k_409 k_410 (by assumption) rfl rfl (Nat.le_of_ble_eq_true rfl) (by decide) (fun E G9 I9 h9 => ?_) (fun r1 G1 I1 h2 => ?_)
  · obtain ⟨h1, h2, h3⟩ := h9
    rcases rg_append z c with e | e | e
    · exact absurd e h1
    · rw [e] at h2
      have h2 : E = "java/lang/IllegalArgumentException" := h2
      subst h2
      refine mx_hdl (h := (0, 9, 12, 13)) [] [(0, 9, 15, 15)] rfl (by unfold mx_exs; simp) (fun z9 hz9 => (nomatch hz9)) ⟨by decide, by decide⟩ (by decide) k_406 (fun q9 => ?_)
      refine mx_astoreE_n (i := 3) (ls' := [some (.ref a), some (.int c), some (.ref o), some (.ref q9)]) (hi := rfl) (hd := dL_append_12) (hn := by decide) (hok := rfl) (hls := rfl) ?_
      refine mx_iconstN 1 dL_append_13 (by decide) ?_
      exact mx_iret dL_append_14 rfl rfl (lwQ_n (k := 1) (by first | omega | (rw [e]; rfl)) (by decide) h3)
    · rw [e] at h2
      have h2 : E = "java/lang/IllegalStateException" := h2
      subst h2
      refine mx_hdl (h := (0, 9, 15, 15)) [(0, 9, 12, 13)] [] rfl (by unfold mx_exs; simp) (List.forall_mem_cons.mpr ⟨⟨by decide, "java/lang/IllegalArgumentException", k_406, by unfold mx_exs; simp, by decide⟩, fun z9 hz9 => (nomatch hz9)⟩) ⟨by decide, by decide⟩ (by decide) k_407 (fun q9 => ?_)
      refine mx_astoreE_n (i := 3) (ls' := [some (.ref a), some (.int c), some (.ref o), some (.ref q9)]) (hi := rfl) (hd := dL_append_15) (hn := by decide) (hok := rfl) (hls := rfl) ?_
      refine mx_iconstN 2 dL_append_16 (by decide) ?_
      exact mx_iret dL_append_17 rfl rfl (lwQ_n (k := 2) (by first | omega | (rw [e]; rfl)) (by decide) h3)
  · obtain ⟨e0, e9, hP⟩ := h2
    subst e9
    have to1 : mx_tg G1 o = 4 := (hP.2.1 o (by rw [ho]; decide)).1.trans ho
    have lo1 : mx_ln G1 o = 1 := (hP.2.1 o (by rw [ho]; decide)).2.1.trans hl
    refine mx_i2l (hv := rfl) (hd := dL_append_7) ?_
    refine mx_last 0 dL_append_8 (by assumption) ⟨rfl, by omega, by omega⟩ ?_
    refine mx_goto (tgt := 18) dL_append_9 (by decide) ?_
    refine mx_iconstN 0 dL_append_18 (by decide) ?_
    exact mx_iret dL_append_19 rfl rfl (lwQ_0 (by have e := e0; first | omega | (rw [e]; rfl)) (hP.uL o 0 _) (by rw [mx_lg_uL, if_pos ⟨rfl, rfl⟩]))

theorem rg_load (z : Zs) : fl_load z = 0 ∨ fl_load z = 3 := by
  unfold fl_load
  (repeat' split) <;> simp
theorem mz_load (z : Zs) (h : fl_load z - 2 = 0) : fl_load z = 0 := by
  have h1 := rg_load z
  first | omega | (rcases h1 with e | e | e <;> (rw [e] at h ⊢ <;> first | rfl | exact absurd h (by decide)))
set_option maxHeartbeats 400000 in
set_option maxRecDepth 100000 in
theorem lw_load (G : mx_G) (I : mx_I) (a o : Nat) (z : Zs) (hW : cW G I a z) (ho : mx_tg G o = 4) (hl : mx_ln G o = 1) : mx_CT yL_load mL_load 9 1 6 [.ref a, .ref o] G I (fun rv Gz Iz => lwQ G I a o z (fl_load z - 2) (nI (gN (zG (nx_load z)))) (nx_load z) rv Gz Iz) (fun _ _ _ => False) := by
  refine mx_startH (k := 1) (by decide) rfl rfl (fun h => nomatch h) (Nat.le_of_ble_eq_true rfl) ?_
  show mx_V mL_load mx_S0 9 1 6 0 [some (.ref a), some (.ref o), none] [] G I (fun rv Gz Iz => lwQ G I a o z (fl_load z - 2) (nI (gN (zG (nx_load z)))) (nx_load z) rv Gz Iz) (fun _ _ _ => False)
  have tg9 : mx_tg G a = 19 := hW.1.1.1
  refine mx_aload_n (i := 1) (hi := rfl) (hl := rfl) (hd := dL_load_0) ?_
  refine mx_iconstN 0 dL_load_1 (by decide) ?_
  refine mx_aload_n (i := 0) (hi := rfl) (hl := rfl) (hd := dL_load_2) ?_
  refine mx_callV (bc := 0) (bs := 0) (ci := 9) (As := []) (rest := [.int (nI 0), .ref o]) (b1 := 1) (b2 := 6) dL_load_3 (ct_load G I a z hW) km_X9_load rfl k_521 k_522 k_523 (by assumption) rfl rfl (Nat.le_of_ble_eq_true rfl) (by decide) (fun E G9 I9 h9 => ?_) (fun r1 G1 I1 h2 => ?_)
  · obtain ⟨h1, h2, h3⟩ := h9
    rcases rg_load z with e | e
    · exact absurd e h1
    · rw [e] at h2
      have h2 : E = "java/lang/IllegalStateException" := h2
      subst h2
      refine mx_hdl (h := (0, 8, 11, 15)) [] [] rfl (by unfold mx_exs; simp) (fun z9 hz9 => (nomatch hz9)) ⟨by decide, by decide⟩ (by decide) k_407 (fun q9 => ?_)
      refine mx_astoreE_n (i := 2) (ls' := [some (.ref a), some (.ref o), some (.ref q9)]) (hi := rfl) (hd := dL_load_11) (hn := by decide) (hok := rfl) (hls := rfl) ?_
      refine mx_iconstN 1 dL_load_12 (by decide) ?_
      exact mx_iret dL_load_13 rfl rfl (lwQ_n (k := 1) (by first | omega | (rw [e]; rfl)) (by decide) h3)
  · obtain ⟨e0, e9, hP⟩ := h2
    subst e9
    have to1 : mx_tg G1 o = 4 := (hP.2.1 o (by rw [ho]; decide)).1.trans ho
    have lo1 : mx_ln G1 o = 1 := (hP.2.1 o (by rw [ho]; decide)).2.1.trans hl
    refine mx_i2l (hv := rfl) (hd := dL_load_6) ?_
    refine mx_last 0 dL_load_7 (by assumption) ⟨rfl, by omega, by omega⟩ ?_
    refine mx_goto (tgt := 14) dL_load_8 (by decide) ?_
    refine mx_iconstN 0 dL_load_14 (by decide) ?_
    exact mx_iret dL_load_15 rfl rfl (lwQ_0 (by have e := e0; first | omega | (rw [e]; rfl)) (hP.uL o 0 _) (by rw [mx_lg_uL, if_pos ⟨rfl, rfl⟩]))

theorem rg_about (z : Zs) (w : Int32) : fl_about w = 0 ∨ fl_about w = 2 := by
  unfold fl_about
  (repeat' split) <;> simp
theorem mz_about (z : Zs) (w : Int32) (h : fl_about w - 1 = 0) : fl_about w = 0 := by
  have h1 := rg_about z w
  first | omega | (rcases h1 with e | e | e <;> (rw [e] at h ⊢ <;> first | rfl | exact absurd h (by decide)))
set_option maxHeartbeats 400000 in
set_option maxRecDepth 100000 in
theorem lw_about (G : mx_G) (I : mx_I) (a o : Nat) (z : Zs) (hW : cW G I a z) (ho : mx_tg G o = 4) (hl : mx_ln G o = 1) (w : Int32) : mx_CT yL_about mL_about 9 1 6 [.ref a, .int w, .ref o] G I (fun rv Gz Iz => lwQ G I a o z (fl_about w - 1) (an_about z w.toInt.toNat) z rv Gz Iz) (fun _ _ _ => False) := by
  refine mx_startH (k := 1) (by decide) rfl rfl (fun h => nomatch h) (Nat.le_of_ble_eq_true rfl) ?_
  show mx_V mL_about mx_S0 9 1 6 0 [some (.ref a), some (.int w), some (.ref o), none] [] G I (fun rv Gz Iz => lwQ G I a o z (fl_about w - 1) (an_about z w.toInt.toNat) z rv Gz Iz) (fun _ _ _ => False)
  have tg9 : mx_tg G a = 19 := hW.1.1.1
  refine mx_aload_n (i := 2) (hi := rfl) (hl := rfl) (hd := dL_about_0) ?_
  refine mx_iconstN 0 dL_about_1 (by decide) ?_
  refine mx_aload_n (i := 0) (hi := rfl) (hl := rfl) (hd := dL_about_2) ?_
  refine mx_iload_n (i := 1) (hi := rfl) (hl := rfl) (hd := dL_about_3) ?_
  refine mx_callV (bc := 0) (bs := 0) (ci := 9) (As := [.int w]) (rest := [.int (nI 0), .ref o]) (b1 := 1) (b2 := 6) dL_about_4 (ct_about G I a z hW w) km_X9_about rfl k_536 k_537 k_538 (by assumption) rfl rfl (Nat.le_of_ble_eq_true rfl) (by decide) (fun E G9 I9 h9 => ?_) (fun r1 G1 I1 h2 => ?_)
  · obtain ⟨h1, h2, h3⟩ := h9
    rcases rg_about z w with e | e
    · exact absurd e h1
    · rw [e] at h2
      have h2 : E = "java/lang/IllegalArgumentException" := h2
      subst h2
      refine mx_hdl (h := (0, 9, 12, 13)) [] [] rfl (by unfold mx_exs; simp) (fun z9 hz9 => (nomatch hz9)) ⟨by decide, by decide⟩ (by decide) k_406 (fun q9 => ?_)
      refine mx_astoreE_n (i := 3) (ls' := [some (.ref a), some (.int w), some (.ref o), some (.ref q9)]) (hi := rfl) (hd := dL_about_12) (hn := by decide) (hok := rfl) (hls := rfl) ?_
      refine mx_iconstN 1 dL_about_13 (by decide) ?_
      exact mx_iret dL_about_14 rfl rfl (lwQ_n (k := 1) (by first | omega | (rw [e]; rfl)) (by decide) h3)
  · obtain ⟨e0, e9, hP⟩ := h2
    subst e9
    have to1 : mx_tg G1 o = 4 := (hP.2.1 o (by rw [ho]; decide)).1.trans ho
    have lo1 : mx_ln G1 o = 1 := (hP.2.1 o (by rw [ho]; decide)).2.1.trans hl
    refine mx_i2l (hv := rfl) (hd := dL_about_7) ?_
    refine mx_last 0 dL_about_8 (by assumption) ⟨rfl, by omega, by omega⟩ ?_
    refine mx_goto (tgt := 15) dL_about_9 (by decide) ?_
    refine mx_iconstN 0 dL_about_15 (by decide) ?_
    exact mx_iret dL_about_16 rfl rfl (lwQ_0 (by have e := e0; first | omega | (rw [e]; rfl)) (hP.uL o 0 _) (by rw [mx_lg_uL, if_pos ⟨rfl, rfl⟩]))

theorem rg_step (z : Zs) (s : Int32) (w : Int32) : fl_step z s w = 0 ∨ fl_step z s w = 1 ∨ fl_step z s w = 2 := by
  unfold fl_step
  (repeat' split) <;> simp
theorem mz_step (z : Zs) (s : Int32) (w : Int32) (h : fl_step z s w = 0) : fl_step z s w = 0 := by
  have h1 := rg_step z s w
  first | omega | (rcases h1 with e | e | e <;> (rw [e] at h ⊢ <;> first | rfl | exact absurd h (by decide)))
set_option maxHeartbeats 400000 in
set_option maxRecDepth 100000 in
theorem lw_step (G : mx_G) (I : mx_I) (a o : Nat) (z : Zs) (hW : cW G I a z) (ho : mx_tg G o = 4) (hl : mx_ln G o = 1) (s : Int32) (w : Int32) : mx_CT yL_step mL_step 9 2 12 [.ref a, .int s, .int w, .ref o] G I (fun rv Gz Iz => lwQ G I a o z (fl_step z s w) (nI (an_step z s.toInt.toNat w.toInt.toNat)) z rv Gz Iz) (fun _ _ _ => False) := by
  refine mx_startH (k := 1) (by decide) rfl rfl (fun h => nomatch h) (Nat.le_of_ble_eq_true rfl) ?_
  show mx_V mL_step mx_S0 9 2 12 0 [some (.ref a), some (.int s), some (.int w), some (.ref o), none] [] G I (fun rv Gz Iz => lwQ G I a o z (fl_step z s w) (nI (an_step z s.toInt.toNat w.toInt.toNat)) z rv Gz Iz) (fun _ _ _ => False)
  have tg9 : mx_tg G a = 19 := hW.1.1.1
  refine mx_aload_n (i := 3) (hi := rfl) (hl := rfl) (hd := dL_step_0) ?_
  refine mx_iconstN 0 dL_step_1 (by decide) ?_
  refine mx_aload_n (i := 0) (hi := rfl) (hl := rfl) (hd := dL_step_2) ?_
  refine mx_iload_n (i := 1) (hi := rfl) (hl := rfl) (hd := dL_step_3) ?_
  refine mx_iload_n (i := 2) (hi := rfl) (hl := rfl) (hd := dL_step_4) ?_
  refine mx_callV (bc := 0) (bs := 0) (ci := 9) (As := [.int s, .int w]) (rest := [.int (nI 0), .ref o]) (b1 := 2) (b2 := 12) dL_step_5 (ct_step G I a z hW s w) km_X9_step rfl k_600 k_601 k_602 (by assumption) rfl rfl (Nat.le_of_ble_eq_true rfl) (by decide) (fun E G9 I9 h9 => ?_) (fun r1 G1 I1 h2 => ?_)
  · obtain ⟨h1, h2, h3⟩ := h9
    rcases rg_step z s w with e | e | e
    · exact absurd e h1
    · rw [e] at h2
      have h2 : E = "java/lang/IndexOutOfBoundsException" := h2
      subst h2
      refine mx_hdl (h := (0, 10, 13, 28)) [] [(0, 10, 17, 13)] rfl (by unfold mx_exs; simp) (fun z9 hz9 => (nomatch hz9)) ⟨by decide, by decide⟩ (by decide) k_599 (fun q9 => ?_)
      refine mx_astoreE (i := 4) (ls' := [some (.ref a), some (.int s), some (.int w), some (.ref o), some (.ref q9)]) (hd := dL_step_13) (hn := by decide) (hok := rfl) (hls := rfl) ?_
      refine mx_iconstN 1 dL_step_15 (by decide) ?_
      exact mx_iret dL_step_16 rfl rfl (lwQ_n (k := 1) (by first | omega | (rw [e]; rfl)) (by decide) h3)
    · rw [e] at h2
      have h2 : E = "java/lang/IllegalArgumentException" := h2
      subst h2
      refine mx_hdl (h := (0, 10, 17, 13)) [(0, 10, 13, 28)] [] rfl (by unfold mx_exs; simp) (List.forall_mem_cons.mpr ⟨⟨by decide, "java/lang/IndexOutOfBoundsException", k_599, by unfold mx_exs; simp, by decide⟩, fun z9 hz9 => (nomatch hz9)⟩) ⟨by decide, by decide⟩ (by decide) k_406 (fun q9 => ?_)
      refine mx_astoreE (i := 4) (ls' := [some (.ref a), some (.int s), some (.int w), some (.ref o), some (.ref q9)]) (hd := dL_step_17) (hn := by decide) (hok := rfl) (hls := rfl) ?_
      refine mx_iconstN 2 dL_step_19 (by decide) ?_
      exact mx_iret dL_step_20 rfl rfl (lwQ_n (k := 2) (by first | omega | (rw [e]; rfl)) (by decide) h3)
  · obtain ⟨e0, e9, hP⟩ := h2
    subst e9
    have to1 : mx_tg G1 o = 4 := (hP.2.1 o (by rw [ho]; decide)).1.trans ho
    have lo1 : mx_ln G1 o = 1 := (hP.2.1 o (by rw [ho]; decide)).2.1.trans hl
    refine mx_i2l (hv := rfl) (hd := dL_step_8) ?_
    refine mx_last 0 dL_step_9 (by assumption) ⟨rfl, by omega, by omega⟩ ?_
    refine mx_goto (tgt := 21) dL_step_10 (by decide) ?_
    refine mx_iconstN 0 dL_step_21 (by decide) ?_
    exact mx_iret dL_step_22 rfl rfl (lwQ_0 (by have e := e0; first | omega | (rw [e]; rfl)) (hP.uL o 0 _) (by rw [mx_lg_uL, if_pos ⟨rfl, rfl⟩]))

theorem rg_person (z : Zs) (p : Int32) (w : Int32) : fl_person z p w = 0 ∨ fl_person z p w = 1 ∨ fl_person z p w = 2 := by
  unfold fl_person
  (repeat' split) <;> simp
theorem mz_person (z : Zs) (p : Int32) (w : Int32) (h : fl_person z p w = 0) : fl_person z p w = 0 := by
  have h1 := rg_person z p w
  first | omega | (rcases h1 with e | e | e <;> (rw [e] at h ⊢ <;> first | rfl | exact absurd h (by decide)))
set_option maxHeartbeats 400000 in
set_option maxRecDepth 100000 in
theorem lw_person (G : mx_G) (I : mx_I) (a o : Nat) (z : Zs) (hW : cW G I a z) (ho : mx_tg G o = 4) (hl : mx_ln G o = 1) (p : Int32) (w : Int32) : mx_CT yL_person mL_person 9 2 12 [.ref a, .int p, .int w, .ref o] G I (fun rv Gz Iz => lwQ G I a o z (fl_person z p w) (nI (an_person z p.toInt.toNat w.toInt.toNat)) z rv Gz Iz) (fun _ _ _ => False) := by
  refine mx_startH (k := 1) (by decide) rfl rfl (fun h => nomatch h) (Nat.le_of_ble_eq_true rfl) ?_
  show mx_V mL_person mx_S0 9 2 12 0 [some (.ref a), some (.int p), some (.int w), some (.ref o), none] [] G I (fun rv Gz Iz => lwQ G I a o z (fl_person z p w) (nI (an_person z p.toInt.toNat w.toInt.toNat)) z rv Gz Iz) (fun _ _ _ => False)
  have tg9 : mx_tg G a = 19 := hW.1.1.1
  refine mx_aload_n (i := 3) (hi := rfl) (hl := rfl) (hd := dL_person_0) ?_
  refine mx_iconstN 0 dL_person_1 (by decide) ?_
  refine mx_aload_n (i := 0) (hi := rfl) (hl := rfl) (hd := dL_person_2) ?_
  refine mx_iload_n (i := 1) (hi := rfl) (hl := rfl) (hd := dL_person_3) ?_
  refine mx_iload_n (i := 2) (hi := rfl) (hl := rfl) (hd := dL_person_4) ?_
  refine mx_callV (bc := 0) (bs := 0) (ci := 9) (As := [.int p, .int w]) (rest := [.int (nI 0), .ref o]) (b1 := 2) (b2 := 12) dL_person_5 (ct_person G I a z hW p w) km_X9_person rfl k_611 k_612 k_613 (by assumption) rfl rfl (Nat.le_of_ble_eq_true rfl) (by decide) (fun E G9 I9 h9 => ?_) (fun r1 G1 I1 h2 => ?_)
  · obtain ⟨h1, h2, h3⟩ := h9
    rcases rg_person z p w with e | e | e
    · exact absurd e h1
    · rw [e] at h2
      have h2 : E = "java/lang/IndexOutOfBoundsException" := h2
      subst h2
      refine mx_hdl (h := (0, 10, 13, 28)) [] [(0, 10, 17, 13)] rfl (by unfold mx_exs; simp) (fun z9 hz9 => (nomatch hz9)) ⟨by decide, by decide⟩ (by decide) k_599 (fun q9 => ?_)
      refine mx_astoreE (i := 4) (ls' := [some (.ref a), some (.int p), some (.int w), some (.ref o), some (.ref q9)]) (hd := dL_person_13) (hn := by decide) (hok := rfl) (hls := rfl) ?_
      refine mx_iconstN 1 dL_person_15 (by decide) ?_
      exact mx_iret dL_person_16 rfl rfl (lwQ_n (k := 1) (by first | omega | (rw [e]; rfl)) (by decide) h3)
    · rw [e] at h2
      have h2 : E = "java/lang/IllegalArgumentException" := h2
      subst h2
      refine mx_hdl (h := (0, 10, 17, 13)) [(0, 10, 13, 28)] [] rfl (by unfold mx_exs; simp) (List.forall_mem_cons.mpr ⟨⟨by decide, "java/lang/IndexOutOfBoundsException", k_599, by unfold mx_exs; simp, by decide⟩, fun z9 hz9 => (nomatch hz9)⟩) ⟨by decide, by decide⟩ (by decide) k_406 (fun q9 => ?_)
      refine mx_astoreE (i := 4) (ls' := [some (.ref a), some (.int p), some (.int w), some (.ref o), some (.ref q9)]) (hd := dL_person_17) (hn := by decide) (hok := rfl) (hls := rfl) ?_
      refine mx_iconstN 2 dL_person_19 (by decide) ?_
      exact mx_iret dL_person_20 rfl rfl (lwQ_n (k := 2) (by first | omega | (rw [e]; rfl)) (by decide) h3)
  · obtain ⟨e0, e9, hP⟩ := h2
    subst e9
    have to1 : mx_tg G1 o = 4 := (hP.2.1 o (by rw [ho]; decide)).1.trans ho
    have lo1 : mx_ln G1 o = 1 := (hP.2.1 o (by rw [ho]; decide)).2.1.trans hl
    refine mx_i2l (hv := rfl) (hd := dL_person_8) ?_
    refine mx_last 0 dL_person_9 (by assumption) ⟨rfl, by omega, by omega⟩ ?_
    refine mx_goto (tgt := 21) dL_person_10 (by decide) ?_
    refine mx_iconstN 0 dL_person_21 (by decide) ?_
    exact mx_iret dL_person_22 rfl rfl (lwQ_0 (by have e := e0; first | omega | (rw [e]; rfl)) (hP.uL o 0 _) (by rw [mx_lg_uL, if_pos ⟨rfl, rfl⟩]))

theorem rg_find (z : Zs) (p : Int32) (k : Int32) (q : Int32) : fl_find z p k q = 0 ∨ fl_find z p k q = 1 ∨ fl_find z p k q = 2 := by
  unfold fl_find
  (repeat' split) <;> simp
theorem mz_find (z : Zs) (p : Int32) (k : Int32) (q : Int32) (h : fl_find z p k q = 0) : fl_find z p k q = 0 := by
  have h1 := rg_find z p k q
  first | omega | (rcases h1 with e | e | e <;> (rw [e] at h ⊢ <;> first | rfl | exact absurd h (by decide)))
set_option maxHeartbeats 400000 in
set_option maxRecDepth 100000 in
theorem lw_find (G : mx_G) (I : mx_I) (a o : Nat) (z : Zs) (hW : cW G I a z) (ho : mx_tg G o = 4) (hl : mx_ln G o = 1) (p : Int32) (k : Int32) (q : Int32) : mx_CT yL_find mL_find 9 2 12 [.ref a, .int p, .int k, .int q, .ref o] G I (fun rv Gz Iz => lwQ G I a o z (fl_find z p k q) (oI (an_find z p.toInt.toNat k.toInt.toNat q.toInt.toNat)) z rv Gz Iz) (fun _ _ _ => False) := by
  refine mx_startH (k := 1) (by decide) rfl rfl (fun h => nomatch h) (Nat.le_of_ble_eq_true rfl) ?_
  show mx_V mL_find mx_S0 9 2 12 0 [some (.ref a), some (.int p), some (.int k), some (.int q), some (.ref o), none] [] G I (fun rv Gz Iz => lwQ G I a o z (fl_find z p k q) (oI (an_find z p.toInt.toNat k.toInt.toNat q.toInt.toNat)) z rv Gz Iz) (fun _ _ _ => False)
  have tg9 : mx_tg G a = 19 := hW.1.1.1
  refine mx_aload (i := 4) (hl := rfl) (hd := dL_find_0) ?_
  refine mx_iconstN 0 dL_find_2 (by decide) ?_
  refine mx_aload_n (i := 0) (hi := rfl) (hl := rfl) (hd := dL_find_3) ?_
  refine mx_iload_n (i := 1) (hi := rfl) (hl := rfl) (hd := dL_find_4) ?_
  refine mx_iload_n (i := 2) (hi := rfl) (hl := rfl) (hd := dL_find_5) ?_
  refine mx_iload_n (i := 3) (hi := rfl) (hl := rfl) (hd := dL_find_6) ?_
  refine mx_callV (bc := 0) (bs := 0) (ci := 9) (As := [.int p, .int k, .int q]) (rest := [.int (nI 0), .ref o]) (b1 := 2) (b2 := 12) dL_find_7 (ct_find G I a z hW p k q) km_X9_find rfl k_635 k_636 k_637 (by assumption) rfl rfl (Nat.le_of_ble_eq_true rfl) (by decide) (fun E G9 I9 h9 => ?_) (fun r1 G1 I1 h2 => ?_)
  · obtain ⟨h1, h2, h3⟩ := h9
    rcases rg_find z p k q with e | e | e
    · exact absurd e h1
    · rw [e] at h2
      have h2 : E = "java/lang/IndexOutOfBoundsException" := h2
      subst h2
      refine mx_hdl (h := (0, 12, 15, 28)) [] [(0, 12, 19, 13)] rfl (by unfold mx_exs; simp) (fun z9 hz9 => (nomatch hz9)) ⟨by decide, by decide⟩ (by decide) k_599 (fun q9 => ?_)
      refine mx_astoreE (i := 5) (ls' := [some (.ref a), some (.int p), some (.int k), some (.int q), some (.ref o), some (.ref q9)]) (hd := dL_find_15) (hn := by decide) (hok := rfl) (hls := rfl) ?_
      refine mx_iconstN 1 dL_find_17 (by decide) ?_
      exact mx_iret dL_find_18 rfl rfl (lwQ_n (k := 1) (by first | omega | (rw [e]; rfl)) (by decide) h3)
    · rw [e] at h2
      have h2 : E = "java/lang/IllegalArgumentException" := h2
      subst h2
      refine mx_hdl (h := (0, 12, 19, 13)) [(0, 12, 15, 28)] [] rfl (by unfold mx_exs; simp) (List.forall_mem_cons.mpr ⟨⟨by decide, "java/lang/IndexOutOfBoundsException", k_599, by unfold mx_exs; simp, by decide⟩, fun z9 hz9 => (nomatch hz9)⟩) ⟨by decide, by decide⟩ (by decide) k_406 (fun q9 => ?_)
      refine mx_astoreE (i := 5) (ls' := [some (.ref a), some (.int p), some (.int k), some (.int q), some (.ref o), some (.ref q9)]) (hd := dL_find_19) (hn := by decide) (hok := rfl) (hls := rfl) ?_
      refine mx_iconstN 2 dL_find_21 (by decide) ?_
      exact mx_iret dL_find_22 rfl rfl (lwQ_n (k := 2) (by first | omega | (rw [e]; rfl)) (by decide) h3)
  · obtain ⟨e0, e9, hP⟩ := h2
    subst e9
    have to1 : mx_tg G1 o = 4 := (hP.2.1 o (by rw [ho]; decide)).1.trans ho
    have lo1 : mx_ln G1 o = 1 := (hP.2.1 o (by rw [ho]; decide)).2.1.trans hl
    refine mx_i2l (hv := rfl) (hd := dL_find_10) ?_
    refine mx_last 0 dL_find_11 (by assumption) ⟨rfl, by omega, by omega⟩ ?_
    refine mx_goto (tgt := 23) dL_find_12 (by decide) ?_
    refine mx_iconstN 0 dL_find_23 (by decide) ?_
    exact mx_iret dL_find_24 rfl rfl (lwQ_0 (by have e := e0; first | omega | (rw [e]; rfl)) (hP.uL o 0 _) (by rw [mx_lg_uL, if_pos ⟨rfl, rfl⟩]))

theorem rg_patternAt (z : Zs) (j : Int32) : fl_patternAt j = 0 ∨ fl_patternAt j = 2 := by
  unfold fl_patternAt
  (repeat' split) <;> simp
theorem mz_patternAt (z : Zs) (j : Int32) (h : fl_patternAt j - 1 = 0) : fl_patternAt j = 0 := by
  have h1 := rg_patternAt z j
  first | omega | (rcases h1 with e | e | e <;> (rw [e] at h ⊢ <;> first | rfl | exact absurd h (by decide)))
set_option maxHeartbeats 400000 in
set_option maxRecDepth 100000 in
theorem lw_patternAt (G : mx_G) (I : mx_I) (a o : Nat) (z : Zs) (hW : cW G I a z) (ho : mx_tg G o = 4) (hl : mx_ln G o = 1) (j : Int32) : mx_CT yL_patternAt mL_patternAt 9 1 6 [.ref a, .int j, .ref o] G I (fun rv Gz Iz => lwQ G I a o z (fl_patternAt j - 1) (an_patternAt z j.toInt.toNat) z rv Gz Iz) (fun _ _ _ => False) := by
  refine mx_startH (k := 1) (by decide) rfl rfl (fun h => nomatch h) (Nat.le_of_ble_eq_true rfl) ?_
  show mx_V mL_patternAt mx_S0 9 1 6 0 [some (.ref a), some (.int j), some (.ref o), none] [] G I (fun rv Gz Iz => lwQ G I a o z (fl_patternAt j - 1) (an_patternAt z j.toInt.toNat) z rv Gz Iz) (fun _ _ _ => False)
  have tg9 : mx_tg G a = 19 := hW.1.1.1
  refine mx_aload_n (i := 2) (hi := rfl) (hl := rfl) (hd := dL_patternAt_0) ?_
  refine mx_iconstN 0 dL_patternAt_1 (by decide) ?_
  refine mx_aload_n (i := 0) (hi := rfl) (hl := rfl) (hd := dL_patternAt_2) ?_
  refine mx_iload_n (i := 1) (hi := rfl) (hl := rfl) (hd := dL_patternAt_3) ?_
  refine mx_callV (bc := 0) (bs := 0) (ci := 9) (As := [.int j]) (rest := [.int (nI 0), .ref o]) (b1 := 1) (b2 := 6) dL_patternAt_4 (ct_patternAt G I a z hW j) km_X9_patternAt rfl k_649 k_650 k_651 (by assumption) rfl rfl (Nat.le_of_ble_eq_true rfl) (by decide) (fun E G9 I9 h9 => ?_) (fun r1 G1 I1 h2 => ?_)
  · obtain ⟨h1, h2, h3⟩ := h9
    rcases rg_patternAt z j with e | e
    · exact absurd e h1
    · rw [e] at h2
      have h2 : E = "java/lang/IllegalArgumentException" := h2
      subst h2
      refine mx_hdl (h := (0, 9, 12, 13)) [] [] rfl (by unfold mx_exs; simp) (fun z9 hz9 => (nomatch hz9)) ⟨by decide, by decide⟩ (by decide) k_406 (fun q9 => ?_)
      refine mx_astoreE_n (i := 3) (ls' := [some (.ref a), some (.int j), some (.ref o), some (.ref q9)]) (hi := rfl) (hd := dL_patternAt_12) (hn := by decide) (hok := rfl) (hls := rfl) ?_
      refine mx_iconstN 1 dL_patternAt_13 (by decide) ?_
      exact mx_iret dL_patternAt_14 rfl rfl (lwQ_n (k := 1) (by first | omega | (rw [e]; rfl)) (by decide) h3)
  · obtain ⟨e0, e9, hP⟩ := h2
    subst e9
    have to1 : mx_tg G1 o = 4 := (hP.2.1 o (by rw [ho]; decide)).1.trans ho
    have lo1 : mx_ln G1 o = 1 := (hP.2.1 o (by rw [ho]; decide)).2.1.trans hl
    refine mx_i2l (hv := rfl) (hd := dL_patternAt_7) ?_
    refine mx_last 0 dL_patternAt_8 (by assumption) ⟨rfl, by omega, by omega⟩ ?_
    refine mx_goto (tgt := 15) dL_patternAt_9 (by decide) ?_
    refine mx_iconstN 0 dL_patternAt_15 (by decide) ?_
    exact mx_iret dL_patternAt_16 rfl rfl (lwQ_0 (by have e := e0; first | omega | (rw [e]; rfl)) (hP.uL o 0 _) (by rw [mx_lg_uL, if_pos ⟨rfl, rfl⟩]))

theorem rg_addPerson (z : Zs) : fl_addPerson z = 0 ∨ fl_addPerson z = 3 := by
  unfold fl_addPerson
  (repeat' split) <;> simp
theorem mz_addPerson (z : Zs) (h : fl_addPerson z - 2 = 0) : fl_addPerson z = 0 := by
  have h1 := rg_addPerson z
  first | omega | (rcases h1 with e | e | e <;> (rw [e] at h ⊢ <;> first | rfl | exact absurd h (by decide)))
set_option maxHeartbeats 400000 in
set_option maxRecDepth 100000 in
theorem lw_addPerson (G : mx_G) (I : mx_I) (a o : Nat) (z : Zs) (hW : cW G I a z) (ho : mx_tg G o = 4) (hl : mx_ln G o = 1) : mx_CT yL_addPerson mL_addPerson 9 1 6 [.ref a, .ref o] G I (fun rv Gz Iz => lwQ G I a o z (fl_addPerson z - 2) (nI (gP (zG z))) (nx_addPerson z) rv Gz Iz) (fun _ _ _ => False) := by
  refine mx_startH (k := 1) (by decide) rfl rfl (fun h => nomatch h) (Nat.le_of_ble_eq_true rfl) ?_
  show mx_V mL_addPerson mx_S0 9 1 6 0 [some (.ref a), some (.ref o), none] [] G I (fun rv Gz Iz => lwQ G I a o z (fl_addPerson z - 2) (nI (gP (zG z))) (nx_addPerson z) rv Gz Iz) (fun _ _ _ => False)
  have tg9 : mx_tg G a = 19 := hW.1.1.1
  refine mx_aload_n (i := 1) (hi := rfl) (hl := rfl) (hd := dL_addPerson_0) ?_
  refine mx_iconstN 0 dL_addPerson_1 (by decide) ?_
  refine mx_aload_n (i := 0) (hi := rfl) (hl := rfl) (hd := dL_addPerson_2) ?_
  refine mx_callV (bc := 0) (bs := 0) (ci := 9) (As := []) (rest := [.int (nI 0), .ref o]) (b1 := 1) (b2 := 6) dL_addPerson_3 (ct_addPerson G I a z hW) km_X9_addPerson rfl k_656 k_657 k_658 (by assumption) rfl rfl (Nat.le_of_ble_eq_true rfl) (by decide) (fun E G9 I9 h9 => ?_) (fun r1 G1 I1 h2 => ?_)
  · obtain ⟨h1, h2, h3⟩ := h9
    rcases rg_addPerson z with e | e
    · exact absurd e h1
    · rw [e] at h2
      have h2 : E = "java/lang/IllegalStateException" := h2
      subst h2
      refine mx_hdl (h := (0, 8, 11, 15)) [] [] rfl (by unfold mx_exs; simp) (fun z9 hz9 => (nomatch hz9)) ⟨by decide, by decide⟩ (by decide) k_407 (fun q9 => ?_)
      refine mx_astoreE_n (i := 2) (ls' := [some (.ref a), some (.ref o), some (.ref q9)]) (hi := rfl) (hd := dL_addPerson_11) (hn := by decide) (hok := rfl) (hls := rfl) ?_
      refine mx_iconstN 1 dL_addPerson_12 (by decide) ?_
      exact mx_iret dL_addPerson_13 rfl rfl (lwQ_n (k := 1) (by first | omega | (rw [e]; rfl)) (by decide) h3)
  · obtain ⟨e0, e9, hP⟩ := h2
    subst e9
    have to1 : mx_tg G1 o = 4 := (hP.2.1 o (by rw [ho]; decide)).1.trans ho
    have lo1 : mx_ln G1 o = 1 := (hP.2.1 o (by rw [ho]; decide)).2.1.trans hl
    refine mx_i2l (hv := rfl) (hd := dL_addPerson_6) ?_
    refine mx_last 0 dL_addPerson_7 (by assumption) ⟨rfl, by omega, by omega⟩ ?_
    refine mx_goto (tgt := 14) dL_addPerson_8 (by decide) ?_
    refine mx_iconstN 0 dL_addPerson_14 (by decide) ?_
    exact mx_iret dL_addPerson_15 rfl rfl (lwQ_0 (by have e := e0; first | omega | (rw [e]; rfl)) (hP.uL o 0 _) (by rw [mx_lg_uL, if_pos ⟨rfl, rfl⟩]))

theorem rg_addStep (z : Zs) (p : Int32) (k : Int32) (q : Int32) (c : Int32) : gWhy (zG z) p k q c = 0 ∨ gWhy (zG z) p k q c = 1 ∨ gWhy (zG z) p k q c = 2 ∨ gWhy (zG z) p k q c = 3 := by
  unfold gWhy
  (repeat' split) <;> simp
theorem mz_addStep (z : Zs) (p : Int32) (k : Int32) (q : Int32) (c : Int32) (h : gWhy (zG z) p k q c = 0) : gWhy (zG z) p k q c = 0 := by
  have h1 := rg_addStep z p k q c
  first | omega | (rcases h1 with e | e | e <;> (rw [e] at h ⊢ <;> first | rfl | exact absurd h (by decide)))
set_option maxHeartbeats 400000 in
set_option maxRecDepth 100000 in
theorem lw_addStep (G : mx_G) (I : mx_I) (a o : Nat) (z : Zs) (hW : cW G I a z) (ho : mx_tg G o = 4) (hl : mx_ln G o = 1) (p : Int32) (k : Int32) (q : Int32) (c : Int32) : mx_CT yL_addStep mL_addStep 9 1 6 [.ref a, .int p, .int k, .int q, .int c, .ref o] G I (fun rv Gz Iz => lwQ G I a o z (gWhy (zG z) p k q c) (nI (gN (zG z))) (nx_addStep z p.toInt.toNat k.toInt.toNat q.toInt.toNat c.toInt.toNat) rv Gz Iz) (fun _ _ _ => False) := by
  refine mx_startH (k := 1) (by decide) rfl rfl (fun h => nomatch h) (Nat.le_of_ble_eq_true rfl) ?_
  show mx_V mL_addStep mx_S0 9 1 6 0 [some (.ref a), some (.int p), some (.int k), some (.int q), some (.int c), some (.ref o), none] [] G I (fun rv Gz Iz => lwQ G I a o z (gWhy (zG z) p k q c) (nI (gN (zG z))) (nx_addStep z p.toInt.toNat k.toInt.toNat q.toInt.toNat c.toInt.toNat) rv Gz Iz) (fun _ _ _ => False)
  have tg9 : mx_tg G a = 19 := hW.1.1.1
  refine mx_aload (i := 5) (hl := rfl) (hd := dL_addStep_0) ?_
  refine mx_iconstN 0 dL_addStep_2 (by decide) ?_
  refine mx_aload_n (i := 0) (hi := rfl) (hl := rfl) (hd := dL_addStep_3) ?_
  refine mx_iload_n (i := 1) (hi := rfl) (hl := rfl) (hd := dL_addStep_4) ?_
  refine mx_iload_n (i := 2) (hi := rfl) (hl := rfl) (hd := dL_addStep_5) ?_
  refine mx_iload_n (i := 3) (hi := rfl) (hl := rfl) (hd := dL_addStep_6) ?_
  refine mx_iload (i := 4) (hl := rfl) (hd := dL_addStep_7) ?_
  refine mx_callV (bc := 0) (bs := 0) (ci := 9) (As := [.int p, .int k, .int q, .int c]) (rest := [.int (nI 0), .ref o]) (b1 := 1) (b2 := 6) dL_addStep_9 (ct_addStep G I a z hW p k q c) km_X9_addStep rfl k_671 k_672 k_673 (by assumption) rfl rfl (Nat.le_of_ble_eq_true rfl) (by decide) (fun E G9 I9 h9 => ?_) (fun r1 G1 I1 h2 => ?_)
  · obtain ⟨h1, h2, h3⟩ := h9
    rcases rg_addStep z p k q c with e | e | e | e
    · exact absurd e h1
    · rw [e] at h2
      have h2 : E = "java/lang/IndexOutOfBoundsException" := h2
      subst h2
      refine mx_hdl (h := (0, 14, 17, 28)) [] [(0, 14, 21, 13), (0, 14, 25, 15)] rfl (by unfold mx_exs; simp) (fun z9 hz9 => (nomatch hz9)) ⟨by decide, by decide⟩ (by decide) k_599 (fun q9 => ?_)
      refine mx_astoreE (i := 6) (ls' := [some (.ref a), some (.int p), some (.int k), some (.int q), some (.int c), some (.ref o), some (.ref q9)]) (hd := dL_addStep_17) (hn := by decide) (hok := rfl) (hls := rfl) ?_
      refine mx_iconstN 1 dL_addStep_19 (by decide) ?_
      exact mx_iret dL_addStep_20 rfl rfl (lwQ_n (k := 1) (by first | omega | (rw [e]; rfl)) (by decide) h3)
    · rw [e] at h2
      have h2 : E = "java/lang/IllegalArgumentException" := h2
      subst h2
      refine mx_hdl (h := (0, 14, 21, 13)) [(0, 14, 17, 28)] [(0, 14, 25, 15)] rfl (by unfold mx_exs; simp) (List.forall_mem_cons.mpr ⟨⟨by decide, "java/lang/IndexOutOfBoundsException", k_599, by unfold mx_exs; simp, by decide⟩, fun z9 hz9 => (nomatch hz9)⟩) ⟨by decide, by decide⟩ (by decide) k_406 (fun q9 => ?_)
      refine mx_astoreE (i := 6) (ls' := [some (.ref a), some (.int p), some (.int k), some (.int q), some (.int c), some (.ref o), some (.ref q9)]) (hd := dL_addStep_21) (hn := by decide) (hok := rfl) (hls := rfl) ?_
      refine mx_iconstN 2 dL_addStep_23 (by decide) ?_
      exact mx_iret dL_addStep_24 rfl rfl (lwQ_n (k := 2) (by first | omega | (rw [e]; rfl)) (by decide) h3)
    · rw [e] at h2
      have h2 : E = "java/lang/IllegalStateException" := h2
      subst h2
      refine mx_hdl (h := (0, 14, 25, 15)) [(0, 14, 17, 28), (0, 14, 21, 13)] [] rfl (by unfold mx_exs; simp) (List.forall_mem_cons.mpr ⟨⟨by decide, "java/lang/IndexOutOfBoundsException", k_599, by unfold mx_exs; simp, by decide⟩, List.forall_mem_cons.mpr ⟨⟨by decide, "java/lang/IllegalArgumentException", k_406, by unfold mx_exs; simp, by decide⟩, fun z9 hz9 => (nomatch hz9)⟩⟩) ⟨by decide, by decide⟩ (by decide) k_407 (fun q9 => ?_)
      refine mx_astoreE (i := 6) (ls' := [some (.ref a), some (.int p), some (.int k), some (.int q), some (.int c), some (.ref o), some (.ref q9)]) (hd := dL_addStep_25) (hn := by decide) (hok := rfl) (hls := rfl) ?_
      refine mx_iconstN 3 dL_addStep_27 (by decide) ?_
      exact mx_iret dL_addStep_28 rfl rfl (lwQ_n (k := 3) (by first | omega | (rw [e]; rfl)) (by decide) h3)
  · obtain ⟨e0, e9, hP⟩ := h2
    subst e9
    have to1 : mx_tg G1 o = 4 := (hP.2.1 o (by rw [ho]; decide)).1.trans ho
    have lo1 : mx_ln G1 o = 1 := (hP.2.1 o (by rw [ho]; decide)).2.1.trans hl
    refine mx_i2l (hv := rfl) (hd := dL_addStep_12) ?_
    refine mx_last 0 dL_addStep_13 (by assumption) ⟨rfl, by omega, by omega⟩ ?_
    refine mx_goto (tgt := 29) dL_addStep_14 (by decide) ?_
    refine mx_iconstN 0 dL_addStep_29 (by decide) ?_
    exact mx_iret dL_addStep_30 rfl rfl (lwQ_0 (by have e := e0; first | omega | (rw [e]; rfl)) (hP.uL o 0 _) (by rw [mx_lg_uL, if_pos ⟨rfl, rfl⟩]))

theorem rg_removeStep (z : Zs) (s : Int32) : fl_one (gN (zG z)) s = 0 ∨ fl_one (gN (zG z)) s = 1 := by
  unfold fl_one
  (repeat' split) <;> simp
theorem mz_removeStep (z : Zs) (s : Int32) (h : fl_one (gN (zG z)) s = 0) : fl_one (gN (zG z)) s = 0 := by
  have h1 := rg_removeStep z s
  first | omega | (rcases h1 with e | e | e <;> (rw [e] at h ⊢ <;> first | rfl | exact absurd h (by decide)))
set_option maxHeartbeats 400000 in
set_option maxRecDepth 100000 in
theorem lw_removeStep (G : mx_G) (I : mx_I) (a o : Nat) (z : Zs) (hW : cW G I a z) (ho : mx_tg G o = 4) (hl : mx_ln G o = 1) (s : Int32) : mx_CT yL_removeStep mL_removeStep 9 1 6 [.ref a, .int s, .ref o] G I (fun rv Gz Iz => lwQ G I a o z (fl_one (gN (zG z)) s) (nI (gN (zG z) - 1)) (nx_removeStep z s.toInt.toNat) rv Gz Iz) (fun _ _ _ => False) := by
  refine mx_startH (k := 1) (by decide) rfl rfl (fun h => nomatch h) (Nat.le_of_ble_eq_true rfl) ?_
  show mx_V mL_removeStep mx_S0 9 1 6 0 [some (.ref a), some (.int s), some (.ref o), none] [] G I (fun rv Gz Iz => lwQ G I a o z (fl_one (gN (zG z)) s) (nI (gN (zG z) - 1)) (nx_removeStep z s.toInt.toNat) rv Gz Iz) (fun _ _ _ => False)
  have tg9 : mx_tg G a = 19 := hW.1.1.1
  refine mx_aload_n (i := 2) (hi := rfl) (hl := rfl) (hd := dL_removeStep_0) ?_
  refine mx_iconstN 0 dL_removeStep_1 (by decide) ?_
  refine mx_aload_n (i := 0) (hi := rfl) (hl := rfl) (hd := dL_removeStep_2) ?_
  refine mx_iload_n (i := 1) (hi := rfl) (hl := rfl) (hd := dL_removeStep_3) ?_
  refine mx_callV (bc := 0) (bs := 0) (ci := 9) (As := [.int s]) (rest := [.int (nI 0), .ref o]) (b1 := 1) (b2 := 6) dL_removeStep_4 (ct_removeStep G I a z hW s) km_X9_removeStep rfl k_690 k_691 k_692 (by assumption) rfl rfl (Nat.le_of_ble_eq_true rfl) (by decide) (fun E G9 I9 h9 => ?_) (fun r1 G1 I1 h2 => ?_)
  · obtain ⟨h1, h2, h3⟩ := h9
    rcases rg_removeStep z s with e | e
    · exact absurd e h1
    · rw [e] at h2
      have h2 : E = "java/lang/IndexOutOfBoundsException" := h2
      subst h2
      refine mx_hdl (h := (0, 9, 12, 28)) [] [] rfl (by unfold mx_exs; simp) (fun z9 hz9 => (nomatch hz9)) ⟨by decide, by decide⟩ (by decide) k_599 (fun q9 => ?_)
      refine mx_astoreE_n (i := 3) (ls' := [some (.ref a), some (.int s), some (.ref o), some (.ref q9)]) (hi := rfl) (hd := dL_removeStep_12) (hn := by decide) (hok := rfl) (hls := rfl) ?_
      refine mx_iconstN 1 dL_removeStep_13 (by decide) ?_
      exact mx_iret dL_removeStep_14 rfl rfl (lwQ_n (k := 1) (by first | omega | (rw [e]; rfl)) (by decide) h3)
  · obtain ⟨e0, e9, hP⟩ := h2
    subst e9
    have to1 : mx_tg G1 o = 4 := (hP.2.1 o (by rw [ho]; decide)).1.trans ho
    have lo1 : mx_ln G1 o = 1 := (hP.2.1 o (by rw [ho]; decide)).2.1.trans hl
    refine mx_i2l (hv := rfl) (hd := dL_removeStep_7) ?_
    refine mx_last 0 dL_removeStep_8 (by assumption) ⟨rfl, by omega, by omega⟩ ?_
    refine mx_goto (tgt := 15) dL_removeStep_9 (by decide) ?_
    refine mx_iconstN 0 dL_removeStep_15 (by decide) ?_
    exact mx_iret dL_removeStep_16 rfl rfl (lwQ_0 (by have e := e0; first | omega | (rw [e]; rfl)) (hP.uL o 0 _) (by rw [mx_lg_uL, if_pos ⟨rfl, rfl⟩]))

theorem rg_setCost (z : Zs) (s : Int32) (c : Int32) : fl_setCost z s c = 0 ∨ fl_setCost z s c = 1 ∨ fl_setCost z s c = 2 := by
  unfold fl_setCost
  (repeat' split) <;> simp
theorem mz_setCost (z : Zs) (s : Int32) (c : Int32) (h : fl_setCost z s c = 0) : fl_setCost z s c = 0 := by
  have h1 := rg_setCost z s c
  first | omega | (rcases h1 with e | e | e <;> (rw [e] at h ⊢ <;> first | rfl | exact absurd h (by decide)))
set_option maxHeartbeats 400000 in
set_option maxRecDepth 100000 in
theorem lw_setCost (G : mx_G) (I : mx_I) (a o : Nat) (z : Zs) (hW : cW G I a z) (ho : mx_tg G o = 4) (hl : mx_ln G o = 1) (s : Int32) (c : Int32) : mx_CT yL_setCost mL_setCost 9 1 6 [.ref a, .int s, .int c, .ref o] G I (fun rv Gz Iz => lwQ G I a o z (fl_setCost z s c) (nI (gC (zG z) s.toInt.toNat)) (nx_setCost z s.toInt.toNat c.toInt.toNat) rv Gz Iz) (fun _ _ _ => False) := by
  refine mx_startH (k := 1) (by decide) rfl rfl (fun h => nomatch h) (Nat.le_of_ble_eq_true rfl) ?_
  show mx_V mL_setCost mx_S0 9 1 6 0 [some (.ref a), some (.int s), some (.int c), some (.ref o), none] [] G I (fun rv Gz Iz => lwQ G I a o z (fl_setCost z s c) (nI (gC (zG z) s.toInt.toNat)) (nx_setCost z s.toInt.toNat c.toInt.toNat) rv Gz Iz) (fun _ _ _ => False)
  have tg9 : mx_tg G a = 19 := hW.1.1.1
  refine mx_aload_n (i := 3) (hi := rfl) (hl := rfl) (hd := dL_setCost_0) ?_
  refine mx_iconstN 0 dL_setCost_1 (by decide) ?_
  refine mx_aload_n (i := 0) (hi := rfl) (hl := rfl) (hd := dL_setCost_2) ?_
  refine mx_iload_n (i := 1) (hi := rfl) (hl := rfl) (hd := dL_setCost_3) ?_
  refine mx_iload_n (i := 2) (hi := rfl) (hl := rfl) (hd := dL_setCost_4) ?_
  refine mx_callV (bc := 0) (bs := 0) (ci := 9) (As := [.int s, .int c]) (rest := [.int (nI 0), .ref o]) (b1 := 1) (b2 := 6) dL_setCost_5 (ct_setCost G I a z hW s c) km_X9_setCost rfl k_701 k_702 k_703 (by assumption) rfl rfl (Nat.le_of_ble_eq_true rfl) (by decide) (fun E G9 I9 h9 => ?_) (fun r1 G1 I1 h2 => ?_)
  · obtain ⟨h1, h2, h3⟩ := h9
    rcases rg_setCost z s c with e | e | e
    · exact absurd e h1
    · rw [e] at h2
      have h2 : E = "java/lang/IndexOutOfBoundsException" := h2
      subst h2
      refine mx_hdl (h := (0, 10, 13, 28)) [] [(0, 10, 17, 13)] rfl (by unfold mx_exs; simp) (fun z9 hz9 => (nomatch hz9)) ⟨by decide, by decide⟩ (by decide) k_599 (fun q9 => ?_)
      refine mx_astoreE (i := 4) (ls' := [some (.ref a), some (.int s), some (.int c), some (.ref o), some (.ref q9)]) (hd := dL_setCost_13) (hn := by decide) (hok := rfl) (hls := rfl) ?_
      refine mx_iconstN 1 dL_setCost_15 (by decide) ?_
      exact mx_iret dL_setCost_16 rfl rfl (lwQ_n (k := 1) (by first | omega | (rw [e]; rfl)) (by decide) h3)
    · rw [e] at h2
      have h2 : E = "java/lang/IllegalArgumentException" := h2
      subst h2
      refine mx_hdl (h := (0, 10, 17, 13)) [(0, 10, 13, 28)] [] rfl (by unfold mx_exs; simp) (List.forall_mem_cons.mpr ⟨⟨by decide, "java/lang/IndexOutOfBoundsException", k_599, by unfold mx_exs; simp, by decide⟩, fun z9 hz9 => (nomatch hz9)⟩) ⟨by decide, by decide⟩ (by decide) k_406 (fun q9 => ?_)
      refine mx_astoreE (i := 4) (ls' := [some (.ref a), some (.int s), some (.int c), some (.ref o), some (.ref q9)]) (hd := dL_setCost_17) (hn := by decide) (hok := rfl) (hls := rfl) ?_
      refine mx_iconstN 2 dL_setCost_19 (by decide) ?_
      exact mx_iret dL_setCost_20 rfl rfl (lwQ_n (k := 2) (by first | omega | (rw [e]; rfl)) (by decide) h3)
  · obtain ⟨e0, e9, hP⟩ := h2
    subst e9
    have to1 : mx_tg G1 o = 4 := (hP.2.1 o (by rw [ho]; decide)).1.trans ho
    have lo1 : mx_ln G1 o = 1 := (hP.2.1 o (by rw [ho]; decide)).2.1.trans hl
    refine mx_i2l (hv := rfl) (hd := dL_setCost_8) ?_
    refine mx_last 0 dL_setCost_9 (by assumption) ⟨rfl, by omega, by omega⟩ ?_
    refine mx_goto (tgt := 21) dL_setCost_10 (by decide) ?_
    refine mx_iconstN 0 dL_setCost_21 (by decide) ?_
    exact mx_iret dL_setCost_22 rfl rfl (lwQ_0 (by have e := e0; first | omega | (rw [e]; rfl)) (hP.uL o 0 _) (by rw [mx_lg_uL, if_pos ⟨rfl, rfl⟩]))

theorem rg_turn (z : Zs) (s : Int32) : fl_turn z s = 0 ∨ fl_turn z s = 1 ∨ fl_turn z s = 3 := by
  unfold fl_turn
  (repeat' split) <;> simp
theorem mz_turn (z : Zs) (s : Int32) (h : kD (fl_turn z s) = 0) : fl_turn z s = 0 := by
  have h1 := rg_turn z s
  first | omega | (rcases h1 with e | e | e <;> (rw [e] at h ⊢ <;> first | rfl | exact absurd h (by decide)))
set_option maxHeartbeats 400000 in
set_option maxRecDepth 100000 in
theorem lw_turn (G : mx_G) (I : mx_I) (a o : Nat) (z : Zs) (hW : cW G I a z) (ho : mx_tg G o = 4) (hl : mx_ln G o = 1) (s : Int32) : mx_CT yL_turn mL_turn 9 1 6 [.ref a, .int s, .ref o] G I (fun rv Gz Iz => lwQ G I a o z (kD (fl_turn z s)) (nI (gT (zG z) s.toInt.toNat)) (nx_turn z s.toInt.toNat) rv Gz Iz) (fun _ _ _ => False) := by
  refine mx_startH (k := 1) (by decide) rfl rfl (fun h => nomatch h) (Nat.le_of_ble_eq_true rfl) ?_
  show mx_V mL_turn mx_S0 9 1 6 0 [some (.ref a), some (.int s), some (.ref o), none] [] G I (fun rv Gz Iz => lwQ G I a o z (kD (fl_turn z s)) (nI (gT (zG z) s.toInt.toNat)) (nx_turn z s.toInt.toNat) rv Gz Iz) (fun _ _ _ => False)
  have tg9 : mx_tg G a = 19 := hW.1.1.1
  refine mx_aload_n (i := 2) (hi := rfl) (hl := rfl) (hd := dL_turn_0) ?_
  refine mx_iconstN 0 dL_turn_1 (by decide) ?_
  refine mx_aload_n (i := 0) (hi := rfl) (hl := rfl) (hd := dL_turn_2) ?_
  refine mx_iload_n (i := 1) (hi := rfl) (hl := rfl) (hd := dL_turn_3) ?_
  refine mx_callV (bc := 0) (bs := 0) (ci := 9) (As := [.int s]) (rest := [.int (nI 0), .ref o]) (b1 := 1) (b2 := 6) dL_turn_4 (ct_turn G I a z hW s) km_X9_turn rfl k_713 k_714 k_715 (by assumption) rfl rfl (Nat.le_of_ble_eq_true rfl) (by decide) (fun E G9 I9 h9 => ?_) (fun r1 G1 I1 h2 => ?_)
  · obtain ⟨h1, h2, h3⟩ := h9
    rcases rg_turn z s with e | e | e
    · exact absurd e h1
    · rw [e] at h2
      have h2 : E = "java/lang/IndexOutOfBoundsException" := h2
      subst h2
      refine mx_hdl (h := (0, 9, 12, 28)) [] [(0, 9, 15, 15)] rfl (by unfold mx_exs; simp) (fun z9 hz9 => (nomatch hz9)) ⟨by decide, by decide⟩ (by decide) k_599 (fun q9 => ?_)
      refine mx_astoreE_n (i := 3) (ls' := [some (.ref a), some (.int s), some (.ref o), some (.ref q9)]) (hi := rfl) (hd := dL_turn_12) (hn := by decide) (hok := rfl) (hls := rfl) ?_
      refine mx_iconstN 1 dL_turn_13 (by decide) ?_
      exact mx_iret dL_turn_14 rfl rfl (lwQ_n (k := 1) (by first | omega | (rw [e]; rfl)) (by decide) h3)
    · rw [e] at h2
      have h2 : E = "java/lang/IllegalStateException" := h2
      subst h2
      refine mx_hdl (h := (0, 9, 15, 15)) [(0, 9, 12, 28)] [] rfl (by unfold mx_exs; simp) (List.forall_mem_cons.mpr ⟨⟨by decide, "java/lang/IndexOutOfBoundsException", k_599, by unfold mx_exs; simp, by decide⟩, fun z9 hz9 => (nomatch hz9)⟩) ⟨by decide, by decide⟩ (by decide) k_407 (fun q9 => ?_)
      refine mx_astoreE_n (i := 3) (ls' := [some (.ref a), some (.int s), some (.ref o), some (.ref q9)]) (hi := rfl) (hd := dL_turn_15) (hn := by decide) (hok := rfl) (hls := rfl) ?_
      refine mx_iconstN 2 dL_turn_16 (by decide) ?_
      exact mx_iret dL_turn_17 rfl rfl (lwQ_n (k := 2) (by first | omega | (rw [e]; rfl)) (by decide) h3)
  · obtain ⟨e0, e9, hP⟩ := h2
    subst e9
    have to1 : mx_tg G1 o = 4 := (hP.2.1 o (by rw [ho]; decide)).1.trans ho
    have lo1 : mx_ln G1 o = 1 := (hP.2.1 o (by rw [ho]; decide)).2.1.trans hl
    refine mx_i2l (hv := rfl) (hd := dL_turn_7) ?_
    refine mx_last 0 dL_turn_8 (by assumption) ⟨rfl, by omega, by omega⟩ ?_
    refine mx_goto (tgt := 18) dL_turn_9 (by decide) ?_
    refine mx_iconstN 0 dL_turn_18 (by decide) ?_
    exact mx_iret dL_turn_19 rfl rfl (lwQ_0 (by have e := e0; first | omega | (rw [e]; rfl)) (hP.uL o 0 _) (by rw [mx_lg_uL, if_pos ⟨rfl, rfl⟩]))

theorem rg_exchange (z : Zs) (k : Int32) (l : Int32) : fl_exchange k l = 0 ∨ fl_exchange k l = 2 := by
  unfold fl_exchange
  (repeat' split) <;> simp
theorem mz_exchange (z : Zs) (k : Int32) (l : Int32) (h : fl_exchange k l - 1 = 0) : fl_exchange k l = 0 := by
  have h1 := rg_exchange z k l
  first | omega | (rcases h1 with e | e | e <;> (rw [e] at h ⊢ <;> first | rfl | exact absurd h (by decide)))
set_option maxHeartbeats 400000 in
set_option maxRecDepth 100000 in
theorem lw_exchange (G : mx_G) (I : mx_I) (a o : Nat) (z : Zs) (hW : cW G I a z) (ho : mx_tg G o = 4) (hl : mx_ln G o = 1) (k : Int32) (l : Int32) : mx_CT yL_exchange mL_exchange 9 1 6 [.ref a, .int k, .int l, .ref o] G I (fun rv Gz Iz => lwQ G I a o z (fl_exchange k l - 1) (nI (gCh (gK (zG z)) k.toInt.toNat l.toInt.toNat (gN (zG z)))) (nx_exchange z k.toInt.toNat l.toInt.toNat) rv Gz Iz) (fun _ _ _ => False) := by
  refine mx_startH (k := 1) (by decide) rfl rfl (fun h => nomatch h) (Nat.le_of_ble_eq_true rfl) ?_
  show mx_V mL_exchange mx_S0 9 1 6 0 [some (.ref a), some (.int k), some (.int l), some (.ref o), none] [] G I (fun rv Gz Iz => lwQ G I a o z (fl_exchange k l - 1) (nI (gCh (gK (zG z)) k.toInt.toNat l.toInt.toNat (gN (zG z)))) (nx_exchange z k.toInt.toNat l.toInt.toNat) rv Gz Iz) (fun _ _ _ => False)
  have tg9 : mx_tg G a = 19 := hW.1.1.1
  refine mx_aload_n (i := 3) (hi := rfl) (hl := rfl) (hd := dL_exchange_0) ?_
  refine mx_iconstN 0 dL_exchange_1 (by decide) ?_
  refine mx_aload_n (i := 0) (hi := rfl) (hl := rfl) (hd := dL_exchange_2) ?_
  refine mx_iload_n (i := 1) (hi := rfl) (hl := rfl) (hd := dL_exchange_3) ?_
  refine mx_iload_n (i := 2) (hi := rfl) (hl := rfl) (hd := dL_exchange_4) ?_
  refine mx_callV (bc := 0) (bs := 0) (ci := 9) (As := [.int k, .int l]) (rest := [.int (nI 0), .ref o]) (b1 := 1) (b2 := 6) dL_exchange_5 (ct_exchange G I a z hW k l) km_X9_exchange rfl k_728 k_729 k_730 (by assumption) rfl rfl (Nat.le_of_ble_eq_true rfl) (by decide) (fun E G9 I9 h9 => ?_) (fun r1 G1 I1 h2 => ?_)
  · obtain ⟨h1, h2, h3⟩ := h9
    rcases rg_exchange z k l with e | e
    · exact absurd e h1
    · rw [e] at h2
      have h2 : E = "java/lang/IllegalArgumentException" := h2
      subst h2
      refine mx_hdl (h := (0, 10, 13, 13)) [] [] rfl (by unfold mx_exs; simp) (fun z9 hz9 => (nomatch hz9)) ⟨by decide, by decide⟩ (by decide) k_406 (fun q9 => ?_)
      refine mx_astoreE (i := 4) (ls' := [some (.ref a), some (.int k), some (.int l), some (.ref o), some (.ref q9)]) (hd := dL_exchange_13) (hn := by decide) (hok := rfl) (hls := rfl) ?_
      refine mx_iconstN 1 dL_exchange_15 (by decide) ?_
      exact mx_iret dL_exchange_16 rfl rfl (lwQ_n (k := 1) (by first | omega | (rw [e]; rfl)) (by decide) h3)
  · obtain ⟨e0, e9, hP⟩ := h2
    subst e9
    have to1 : mx_tg G1 o = 4 := (hP.2.1 o (by rw [ho]; decide)).1.trans ho
    have lo1 : mx_ln G1 o = 1 := (hP.2.1 o (by rw [ho]; decide)).2.1.trans hl
    refine mx_i2l (hv := rfl) (hd := dL_exchange_8) ?_
    refine mx_last 0 dL_exchange_9 (by assumption) ⟨rfl, by omega, by omega⟩ ?_
    refine mx_goto (tgt := 17) dL_exchange_10 (by decide) ?_
    refine mx_iconstN 0 dL_exchange_17 (by decide) ?_
    exact mx_iret dL_exchange_18 rfl rfl (lwQ_0 (by have e := e0; first | omega | (rw [e]; rfl)) (hP.uL o 0 _) (by rw [mx_lg_uL, if_pos ⟨rfl, rfl⟩]))

theorem rg_take (z : Zs) : fl_take z = 0 ∨ fl_take z = 3 := by
  unfold fl_take
  (repeat' split) <;> simp
theorem mz_take (z : Zs) (h : fl_take z - 2 = 0) : fl_take z = 0 := by
  have h1 := rg_take z
  first | omega | (rcases h1 with e | e | e <;> (rw [e] at h ⊢ <;> first | rfl | exact absurd h (by decide)))
set_option maxHeartbeats 400000 in
set_option maxRecDepth 100000 in
theorem lw_take (G : mx_G) (I : mx_I) (a o : Nat) (z : Zs) (hW : cW G I a z) (ho : mx_tg G o = 4) (hl : mx_ln G o = 1) : mx_CT yL_take mL_take 9 6 103 [.ref a, .ref o] G I (fun rv Gz Iz => lwQ G I a o z (fl_take z - 2) (nI (pL (rdF (zT z) (zN z)))) (nx_take z) rv Gz Iz) (fun _ _ _ => False) := by
  refine mx_startH (k := 1) (by decide) rfl rfl (fun h => nomatch h) (Nat.le_of_ble_eq_true rfl) ?_
  show mx_V mL_take mx_S0 9 6 103 0 [some (.ref a), some (.ref o), none] [] G I (fun rv Gz Iz => lwQ G I a o z (fl_take z - 2) (nI (pL (rdF (zT z) (zN z)))) (nx_take z) rv Gz Iz) (fun _ _ _ => False)
  have tg9 : mx_tg G a = 19 := hW.1.1.1
  refine mx_aload_n (i := 1) (hi := rfl) (hl := rfl) (hd := dL_take_0) ?_
  refine mx_iconstN 0 dL_take_1 (by decide) ?_
  refine mx_aload_n (i := 0) (hi := rfl) (hl := rfl) (hd := dL_take_2) ?_
  refine mx_callV (bc := 0) (bs := 0) (ci := 9) (As := []) (rest := [.int (nI 0), .ref o]) (b1 := 6) (b2 := 103) dL_take_3 (ct_take G I a z hW) km_X9_take rfl k_739 k_740 k_741 (by assumption) rfl rfl (Nat.le_of_ble_eq_true rfl) (by decide) (fun E G9 I9 h9 => ?_) (fun r1 G1 I1 h2 => ?_)
  · obtain ⟨h1, h2, h3⟩ := h9
    rcases rg_take z with e | e
    · exact absurd e h1
    · rw [e] at h2
      have h2 : E = "java/lang/IllegalStateException" := h2
      subst h2
      refine mx_hdl (h := (0, 8, 11, 15)) [] [] rfl (by unfold mx_exs; simp) (fun z9 hz9 => (nomatch hz9)) ⟨by decide, by decide⟩ (by decide) k_407 (fun q9 => ?_)
      refine mx_astoreE_n (i := 2) (ls' := [some (.ref a), some (.ref o), some (.ref q9)]) (hi := rfl) (hd := dL_take_11) (hn := by decide) (hok := rfl) (hls := rfl) ?_
      refine mx_iconstN 1 dL_take_12 (by decide) ?_
      exact mx_iret dL_take_13 rfl rfl (lwQ_n (k := 1) (by first | omega | (rw [e]; rfl)) (by decide) h3)
  · obtain ⟨e0, e9, hP⟩ := h2
    subst e9
    have to1 : mx_tg G1 o = 4 := (hP.2.1 o (by rw [ho]; decide)).1.trans ho
    have lo1 : mx_ln G1 o = 1 := (hP.2.1 o (by rw [ho]; decide)).2.1.trans hl
    refine mx_i2l (hv := rfl) (hd := dL_take_6) ?_
    refine mx_last 0 dL_take_7 (by assumption) ⟨rfl, by omega, by omega⟩ ?_
    refine mx_goto (tgt := 14) dL_take_8 (by decide) ?_
    refine mx_iconstN 0 dL_take_14 (by decide) ?_
    exact mx_iret dL_take_15 rfl rfl (lwQ_0 (by have e := e0; first | omega | (rw [e]; rfl)) (hP.uL o 0 _) (by rw [mx_lg_uL, if_pos ⟨rfl, rfl⟩]))

theorem rg_undo (z : Zs) : fl_undo z = 0 ∨ fl_undo z = 3 := by
  unfold fl_undo
  (repeat' split) <;> simp
theorem mz_undo (z : Zs) (h : fl_undo z - 2 = 0) : fl_undo z = 0 := by
  have h1 := rg_undo z
  first | omega | (rcases h1 with e | e | e <;> (rw [e] at h ⊢ <;> first | rfl | exact absurd h (by decide)))
set_option maxHeartbeats 400000 in
set_option maxRecDepth 100000 in
theorem lw_undo (G : mx_G) (I : mx_I) (a o : Nat) (z : Zs) (hW : cW G I a z) (ho : mx_tg G o = 4) (hl : mx_ln G o = 1) : mx_CT yL_undo mL_undo 9 1 6 [.ref a, .ref o] G I (fun rv Gz Iz => lwQ G I a o z (fl_undo z - 2) (nI (zC z - 1)) (nx_undo z) rv Gz Iz) (fun _ _ _ => False) := by
  refine mx_startH (k := 1) (by decide) rfl rfl (fun h => nomatch h) (Nat.le_of_ble_eq_true rfl) ?_
  show mx_V mL_undo mx_S0 9 1 6 0 [some (.ref a), some (.ref o), none] [] G I (fun rv Gz Iz => lwQ G I a o z (fl_undo z - 2) (nI (zC z - 1)) (nx_undo z) rv Gz Iz) (fun _ _ _ => False)
  have tg9 : mx_tg G a = 19 := hW.1.1.1
  refine mx_aload_n (i := 1) (hi := rfl) (hl := rfl) (hd := dL_undo_0) ?_
  refine mx_iconstN 0 dL_undo_1 (by decide) ?_
  refine mx_aload_n (i := 0) (hi := rfl) (hl := rfl) (hd := dL_undo_2) ?_
  refine mx_callV (bc := 0) (bs := 0) (ci := 9) (As := []) (rest := [.int (nI 0), .ref o]) (b1 := 1) (b2 := 6) dL_undo_3 (ct_undo G I a z hW) km_X9_undo rfl k_784 k_785 k_786 (by assumption) rfl rfl (Nat.le_of_ble_eq_true rfl) (by decide) (fun E G9 I9 h9 => ?_) (fun r1 G1 I1 h2 => ?_)
  · obtain ⟨h1, h2, h3⟩ := h9
    rcases rg_undo z with e | e
    · exact absurd e h1
    · rw [e] at h2
      have h2 : E = "java/lang/IllegalStateException" := h2
      subst h2
      refine mx_hdl (h := (0, 8, 11, 15)) [] [] rfl (by unfold mx_exs; simp) (fun z9 hz9 => (nomatch hz9)) ⟨by decide, by decide⟩ (by decide) k_407 (fun q9 => ?_)
      refine mx_astoreE_n (i := 2) (ls' := [some (.ref a), some (.ref o), some (.ref q9)]) (hi := rfl) (hd := dL_undo_11) (hn := by decide) (hok := rfl) (hls := rfl) ?_
      refine mx_iconstN 1 dL_undo_12 (by decide) ?_
      exact mx_iret dL_undo_13 rfl rfl (lwQ_n (k := 1) (by first | omega | (rw [e]; rfl)) (by decide) h3)
  · obtain ⟨e0, e9, hP⟩ := h2
    subst e9
    have to1 : mx_tg G1 o = 4 := (hP.2.1 o (by rw [ho]; decide)).1.trans ho
    have lo1 : mx_ln G1 o = 1 := (hP.2.1 o (by rw [ho]; decide)).2.1.trans hl
    refine mx_i2l (hv := rfl) (hd := dL_undo_6) ?_
    refine mx_last 0 dL_undo_7 (by assumption) ⟨rfl, by omega, by omega⟩ ?_
    refine mx_goto (tgt := 14) dL_undo_8 (by decide) ?_
    refine mx_iconstN 0 dL_undo_14 (by decide) ?_
    exact mx_iret dL_undo_15 rfl rfl (lwQ_0 (by have e := e0; first | omega | (rw [e]; rfl)) (hP.uL o 0 _) (by rw [mx_lg_uL, if_pos ⟨rfl, rfl⟩]))

theorem rg_cost (z : Zs) (p : Int32) (q : Int32) : fl_two z p q = 0 ∨ fl_two z p q = 1 := by
  unfold fl_two
  (repeat' split) <;> simp
theorem mz_cost (z : Zs) (p : Int32) (q : Int32) (h : fl_two z p q = 0) : fl_two z p q = 0 := by
  have h1 := rg_cost z p q
  first | omega | (rcases h1 with e | e | e <;> (rw [e] at h ⊢ <;> first | rfl | exact absurd h (by decide)))
set_option maxHeartbeats 400000 in
set_option maxRecDepth 100000 in
theorem lw_cost (G : mx_G) (I : mx_I) (a o : Nat) (z : Zs) (hW : cW G I a z) (ho : mx_tg G o = 4) (hl : mx_ln G o = 1) (p : Int32) (q : Int32) : mx_CT yL_cost mL_cost 9 1 6 [.ref a, .int p, .int q, .ref o] G I (fun rv Gz Iz => lwQ G I a o z (fl_two z p q) (oI (an_cost z p.toInt.toNat q.toInt.toNat)) z rv Gz Iz) (fun _ _ _ => False) := by
  refine mx_startH (k := 1) (by decide) rfl rfl (fun h => nomatch h) (Nat.le_of_ble_eq_true rfl) ?_
  show mx_V mL_cost mx_S0 9 1 6 0 [some (.ref a), some (.int p), some (.int q), some (.ref o), none] [] G I (fun rv Gz Iz => lwQ G I a o z (fl_two z p q) (oI (an_cost z p.toInt.toNat q.toInt.toNat)) z rv Gz Iz) (fun _ _ _ => False)
  have tg9 : mx_tg G a = 19 := hW.1.1.1
  refine mx_aload_n (i := 3) (hi := rfl) (hl := rfl) (hd := dL_cost_0) ?_
  refine mx_iconstN 0 dL_cost_1 (by decide) ?_
  refine mx_aload_n (i := 0) (hi := rfl) (hl := rfl) (hd := dL_cost_2) ?_
  refine mx_iload_n (i := 1) (hi := rfl) (hl := rfl) (hd := dL_cost_3) ?_
  refine mx_iload_n (i := 2) (hi := rfl) (hl := rfl) (hd := dL_cost_4) ?_
  refine mx_callV (bc := 0) (bs := 0) (ci := 9) (As := [.int p, .int q]) (rest := [.int (nI 0), .ref o]) (b1 := 1) (b2 := 6) dL_cost_5 (ct_cost G I a z hW p q) km_X9_cost rfl k_795 k_796 k_797 (by assumption) rfl rfl (Nat.le_of_ble_eq_true rfl) (by decide) (fun E G9 I9 h9 => ?_) (fun r1 G1 I1 h2 => ?_)
  · obtain ⟨h1, h2, h3⟩ := h9
    rcases rg_cost z p q with e | e
    · exact absurd e h1
    · rw [e] at h2
      have h2 : E = "java/lang/IndexOutOfBoundsException" := h2
      subst h2
      refine mx_hdl (h := (0, 10, 13, 28)) [] [] rfl (by unfold mx_exs; simp) (fun z9 hz9 => (nomatch hz9)) ⟨by decide, by decide⟩ (by decide) k_599 (fun q9 => ?_)
      refine mx_astoreE (i := 4) (ls' := [some (.ref a), some (.int p), some (.int q), some (.ref o), some (.ref q9)]) (hd := dL_cost_13) (hn := by decide) (hok := rfl) (hls := rfl) ?_
      refine mx_iconstN 1 dL_cost_15 (by decide) ?_
      exact mx_iret dL_cost_16 rfl rfl (lwQ_n (k := 1) (by first | omega | (rw [e]; rfl)) (by decide) h3)
  · obtain ⟨e0, e9, hP⟩ := h2
    subst e9
    have to1 : mx_tg G1 o = 4 := (hP.2.1 o (by rw [ho]; decide)).1.trans ho
    have lo1 : mx_ln G1 o = 1 := (hP.2.1 o (by rw [ho]; decide)).2.1.trans hl
    refine mx_i2l (hv := rfl) (hd := dL_cost_8) ?_
    refine mx_last 0 dL_cost_9 (by assumption) ⟨rfl, by omega, by omega⟩ ?_
    refine mx_goto (tgt := 17) dL_cost_10 (by decide) ?_
    refine mx_iconstN 0 dL_cost_17 (by decide) ?_
    exact mx_iret dL_cost_18 rfl rfl (lwQ_0 (by have e := e0; first | omega | (rw [e]; rfl)) (hP.uL o 0 _) (by rw [mx_lg_uL, if_pos ⟨rfl, rfl⟩]))

theorem rg_length (z : Zs) (p : Int32) (q : Int32) : fl_two z p q = 0 ∨ fl_two z p q = 1 := by
  unfold fl_two
  (repeat' split) <;> simp
theorem mz_length (z : Zs) (p : Int32) (q : Int32) (h : fl_two z p q = 0) : fl_two z p q = 0 := by
  have h1 := rg_length z p q
  first | omega | (rcases h1 with e | e | e <;> (rw [e] at h ⊢ <;> first | rfl | exact absurd h (by decide)))
set_option maxHeartbeats 400000 in
set_option maxRecDepth 100000 in
theorem lw_length (G : mx_G) (I : mx_I) (a o : Nat) (z : Zs) (hW : cW G I a z) (ho : mx_tg G o = 4) (hl : mx_ln G o = 1) (p : Int32) (q : Int32) : mx_CT yL_length mL_length 9 1 6 [.ref a, .int p, .int q, .ref o] G I (fun rv Gz Iz => lwQ G I a o z (fl_two z p q) (oI (an_length z p.toInt.toNat q.toInt.toNat)) z rv Gz Iz) (fun _ _ _ => False) := by
  refine mx_startH (k := 1) (by decide) rfl rfl (fun h => nomatch h) (Nat.le_of_ble_eq_true rfl) ?_
  show mx_V mL_length mx_S0 9 1 6 0 [some (.ref a), some (.int p), some (.int q), some (.ref o), none] [] G I (fun rv Gz Iz => lwQ G I a o z (fl_two z p q) (oI (an_length z p.toInt.toNat q.toInt.toNat)) z rv Gz Iz) (fun _ _ _ => False)
  have tg9 : mx_tg G a = 19 := hW.1.1.1
  refine mx_aload_n (i := 3) (hi := rfl) (hl := rfl) (hd := dL_length_0) ?_
  refine mx_iconstN 0 dL_length_1 (by decide) ?_
  refine mx_aload_n (i := 0) (hi := rfl) (hl := rfl) (hd := dL_length_2) ?_
  refine mx_iload_n (i := 1) (hi := rfl) (hl := rfl) (hd := dL_length_3) ?_
  refine mx_iload_n (i := 2) (hi := rfl) (hl := rfl) (hd := dL_length_4) ?_
  refine mx_callV (bc := 0) (bs := 0) (ci := 9) (As := [.int p, .int q]) (rest := [.int (nI 0), .ref o]) (b1 := 1) (b2 := 6) dL_length_5 (ct_length G I a z hW p q) km_X9_length rfl k_806 k_807 k_808 (by assumption) rfl rfl (Nat.le_of_ble_eq_true rfl) (by decide) (fun E G9 I9 h9 => ?_) (fun r1 G1 I1 h2 => ?_)
  · obtain ⟨h1, h2, h3⟩ := h9
    rcases rg_length z p q with e | e
    · exact absurd e h1
    · rw [e] at h2
      have h2 : E = "java/lang/IndexOutOfBoundsException" := h2
      subst h2
      refine mx_hdl (h := (0, 10, 13, 28)) [] [] rfl (by unfold mx_exs; simp) (fun z9 hz9 => (nomatch hz9)) ⟨by decide, by decide⟩ (by decide) k_599 (fun q9 => ?_)
      refine mx_astoreE (i := 4) (ls' := [some (.ref a), some (.int p), some (.int q), some (.ref o), some (.ref q9)]) (hd := dL_length_13) (hn := by decide) (hok := rfl) (hls := rfl) ?_
      refine mx_iconstN 1 dL_length_15 (by decide) ?_
      exact mx_iret dL_length_16 rfl rfl (lwQ_n (k := 1) (by first | omega | (rw [e]; rfl)) (by decide) h3)
  · obtain ⟨e0, e9, hP⟩ := h2
    subst e9
    have to1 : mx_tg G1 o = 4 := (hP.2.1 o (by rw [ho]; decide)).1.trans ho
    have lo1 : mx_ln G1 o = 1 := (hP.2.1 o (by rw [ho]; decide)).2.1.trans hl
    refine mx_i2l (hv := rfl) (hd := dL_length_8) ?_
    refine mx_last 0 dL_length_9 (by assumption) ⟨rfl, by omega, by omega⟩ ?_
    refine mx_goto (tgt := 17) dL_length_10 (by decide) ?_
    refine mx_iconstN 0 dL_length_17 (by decide) ?_
    exact mx_iret dL_length_18 rfl rfl (lwQ_0 (by have e := e0; first | omega | (rw [e]; rfl)) (hP.uL o 0 _) (by rw [mx_lg_uL, if_pos ⟨rfl, rfl⟩]))

theorem rg_pathAt (z : Zs) (p : Int32) (q : Int32) (j : Int32) : fl_pathAt z p q j = 0 ∨ fl_pathAt z p q j = 1 ∨ fl_pathAt z p q j = 2 := by
  unfold fl_pathAt
  (repeat' split) <;> simp
theorem mz_pathAt (z : Zs) (p : Int32) (q : Int32) (j : Int32) (h : fl_pathAt z p q j = 0) : fl_pathAt z p q j = 0 := by
  have h1 := rg_pathAt z p q j
  first | omega | (rcases h1 with e | e | e <;> (rw [e] at h ⊢ <;> first | rfl | exact absurd h (by decide)))
set_option maxHeartbeats 400000 in
set_option maxRecDepth 100000 in
theorem lw_pathAt (G : mx_G) (I : mx_I) (a o : Nat) (z : Zs) (hW : cW G I a z) (ho : mx_tg G o = 4) (hl : mx_ln G o = 1) (p : Int32) (q : Int32) (j : Int32) : mx_CT yL_pathAt mL_pathAt 9 2 12 [.ref a, .int p, .int q, .int j, .ref o] G I (fun rv Gz Iz => lwQ G I a o z (fl_pathAt z p q j) (oI (an_pathAt z p.toInt.toNat q.toInt.toNat j.toInt.toNat)) z rv Gz Iz) (fun _ _ _ => False) := by
  refine mx_startH (k := 1) (by decide) rfl rfl (fun h => nomatch h) (Nat.le_of_ble_eq_true rfl) ?_
  show mx_V mL_pathAt mx_S0 9 2 12 0 [some (.ref a), some (.int p), some (.int q), some (.int j), some (.ref o), none] [] G I (fun rv Gz Iz => lwQ G I a o z (fl_pathAt z p q j) (oI (an_pathAt z p.toInt.toNat q.toInt.toNat j.toInt.toNat)) z rv Gz Iz) (fun _ _ _ => False)
  have tg9 : mx_tg G a = 19 := hW.1.1.1
  refine mx_aload (i := 4) (hl := rfl) (hd := dL_pathAt_0) ?_
  refine mx_iconstN 0 dL_pathAt_2 (by decide) ?_
  refine mx_aload_n (i := 0) (hi := rfl) (hl := rfl) (hd := dL_pathAt_3) ?_
  refine mx_iload_n (i := 1) (hi := rfl) (hl := rfl) (hd := dL_pathAt_4) ?_
  refine mx_iload_n (i := 2) (hi := rfl) (hl := rfl) (hd := dL_pathAt_5) ?_
  refine mx_iload_n (i := 3) (hi := rfl) (hl := rfl) (hd := dL_pathAt_6) ?_
  refine mx_callV (bc := 0) (bs := 0) (ci := 9) (As := [.int p, .int q, .int j]) (rest := [.int (nI 0), .ref o]) (b1 := 2) (b2 := 12) dL_pathAt_7 (ct_pathAt G I a z hW p q j) km_X9_pathAt rfl k_842 k_843 k_844 (by assumption) rfl rfl (Nat.le_of_ble_eq_true rfl) (by decide) (fun E G9 I9 h9 => ?_) (fun r1 G1 I1 h2 => ?_)
  · obtain ⟨h1, h2, h3⟩ := h9
    rcases rg_pathAt z p q j with e | e | e
    · exact absurd e h1
    · rw [e] at h2
      have h2 : E = "java/lang/IndexOutOfBoundsException" := h2
      subst h2
      refine mx_hdl (h := (0, 12, 15, 28)) [] [(0, 12, 19, 13)] rfl (by unfold mx_exs; simp) (fun z9 hz9 => (nomatch hz9)) ⟨by decide, by decide⟩ (by decide) k_599 (fun q9 => ?_)
      refine mx_astoreE (i := 5) (ls' := [some (.ref a), some (.int p), some (.int q), some (.int j), some (.ref o), some (.ref q9)]) (hd := dL_pathAt_15) (hn := by decide) (hok := rfl) (hls := rfl) ?_
      refine mx_iconstN 1 dL_pathAt_17 (by decide) ?_
      exact mx_iret dL_pathAt_18 rfl rfl (lwQ_n (k := 1) (by first | omega | (rw [e]; rfl)) (by decide) h3)
    · rw [e] at h2
      have h2 : E = "java/lang/IllegalArgumentException" := h2
      subst h2
      refine mx_hdl (h := (0, 12, 19, 13)) [(0, 12, 15, 28)] [] rfl (by unfold mx_exs; simp) (List.forall_mem_cons.mpr ⟨⟨by decide, "java/lang/IndexOutOfBoundsException", k_599, by unfold mx_exs; simp, by decide⟩, fun z9 hz9 => (nomatch hz9)⟩) ⟨by decide, by decide⟩ (by decide) k_406 (fun q9 => ?_)
      refine mx_astoreE (i := 5) (ls' := [some (.ref a), some (.int p), some (.int q), some (.int j), some (.ref o), some (.ref q9)]) (hd := dL_pathAt_19) (hn := by decide) (hok := rfl) (hls := rfl) ?_
      refine mx_iconstN 2 dL_pathAt_21 (by decide) ?_
      exact mx_iret dL_pathAt_22 rfl rfl (lwQ_n (k := 2) (by first | omega | (rw [e]; rfl)) (by decide) h3)
  · obtain ⟨e0, e9, hP⟩ := h2
    subst e9
    have to1 : mx_tg G1 o = 4 := (hP.2.1 o (by rw [ho]; decide)).1.trans ho
    have lo1 : mx_ln G1 o = 1 := (hP.2.1 o (by rw [ho]; decide)).2.1.trans hl
    refine mx_i2l (hv := rfl) (hd := dL_pathAt_10) ?_
    refine mx_last 0 dL_pathAt_11 (by assumption) ⟨rfl, by omega, by omega⟩ ?_
    refine mx_goto (tgt := 23) dL_pathAt_12 (by decide) ?_
    refine mx_iconstN 0 dL_pathAt_23 (by decide) ?_
    exact mx_iret dL_pathAt_24 rfl rfl (lwQ_0 (by have e := e0; first | omega | (rw [e]; rfl)) (hP.uL o 0 _) (by rw [mx_lg_uL, if_pos ⟨rfl, rfl⟩]))

theorem rg_paths (z : Zs) (p : Int32) (q : Int32) (n : Int32) : fl_paths z p q n = 0 ∨ fl_paths z p q n = 1 ∨ fl_paths z p q n = 2 := by
  unfold fl_paths
  (repeat' split) <;> simp
theorem mz_paths (z : Zs) (p : Int32) (q : Int32) (n : Int32) (h : fl_paths z p q n = 0) : fl_paths z p q n = 0 := by
  have h1 := rg_paths z p q n
  first | omega | (rcases h1 with e | e | e <;> (rw [e] at h ⊢ <;> first | rfl | exact absurd h (by decide)))
set_option maxHeartbeats 400000 in
set_option maxRecDepth 100000 in
theorem lw_paths (G : mx_G) (I : mx_I) (a o : Nat) (z : Zs) (hW : cW G I a z) (ho : mx_tg G o = 4) (hl : mx_ln G o = 1) (p : Int32) (q : Int32) (n : Int32) : mx_CT yL_paths mL_paths 9 2 12 [.ref a, .int p, .int q, .int n, .ref o] G I (fun rv Gz Iz => lwQ G I a o z (fl_paths z p q n) (nI (an_paths z p.toInt.toNat q.toInt.toNat n.toInt.toNat)) z rv Gz Iz) (fun _ _ _ => False) := by
  refine mx_startH (k := 1) (by decide) rfl rfl (fun h => nomatch h) (Nat.le_of_ble_eq_true rfl) ?_
  show mx_V mL_paths mx_S0 9 2 12 0 [some (.ref a), some (.int p), some (.int q), some (.int n), some (.ref o), none] [] G I (fun rv Gz Iz => lwQ G I a o z (fl_paths z p q n) (nI (an_paths z p.toInt.toNat q.toInt.toNat n.toInt.toNat)) z rv Gz Iz) (fun _ _ _ => False)
  have tg9 : mx_tg G a = 19 := hW.1.1.1
  refine mx_aload (i := 4) (hl := rfl) (hd := dL_paths_0) ?_
  refine mx_iconstN 0 dL_paths_2 (by decide) ?_
  refine mx_aload_n (i := 0) (hi := rfl) (hl := rfl) (hd := dL_paths_3) ?_
  refine mx_iload_n (i := 1) (hi := rfl) (hl := rfl) (hd := dL_paths_4) ?_
  refine mx_iload_n (i := 2) (hi := rfl) (hl := rfl) (hd := dL_paths_5) ?_
  refine mx_iload_n (i := 3) (hi := rfl) (hl := rfl) (hd := dL_paths_6) ?_
  refine mx_callV (bc := 0) (bs := 0) (ci := 9) (As := [.int p, .int q, .int n]) (rest := [.int (nI 0), .ref o]) (b1 := 2) (b2 := 12) dL_paths_7 (ct_paths G I a z hW p q n) km_X9_paths rfl k_875 k_876 k_877 (by assumption) rfl rfl (Nat.le_of_ble_eq_true rfl) (by decide) (fun E G9 I9 h9 => ?_) (fun r1 G1 I1 h2 => ?_)
  · obtain ⟨h1, h2, h3⟩ := h9
    rcases rg_paths z p q n with e | e | e
    · exact absurd e h1
    · rw [e] at h2
      have h2 : E = "java/lang/IndexOutOfBoundsException" := h2
      subst h2
      refine mx_hdl (h := (0, 12, 15, 28)) [] [(0, 12, 19, 13)] rfl (by unfold mx_exs; simp) (fun z9 hz9 => (nomatch hz9)) ⟨by decide, by decide⟩ (by decide) k_599 (fun q9 => ?_)
      refine mx_astoreE (i := 5) (ls' := [some (.ref a), some (.int p), some (.int q), some (.int n), some (.ref o), some (.ref q9)]) (hd := dL_paths_15) (hn := by decide) (hok := rfl) (hls := rfl) ?_
      refine mx_iconstN 1 dL_paths_17 (by decide) ?_
      exact mx_iret dL_paths_18 rfl rfl (lwQ_n (k := 1) (by first | omega | (rw [e]; rfl)) (by decide) h3)
    · rw [e] at h2
      have h2 : E = "java/lang/IllegalArgumentException" := h2
      subst h2
      refine mx_hdl (h := (0, 12, 19, 13)) [(0, 12, 15, 28)] [] rfl (by unfold mx_exs; simp) (List.forall_mem_cons.mpr ⟨⟨by decide, "java/lang/IndexOutOfBoundsException", k_599, by unfold mx_exs; simp, by decide⟩, fun z9 hz9 => (nomatch hz9)⟩) ⟨by decide, by decide⟩ (by decide) k_406 (fun q9 => ?_)
      refine mx_astoreE (i := 5) (ls' := [some (.ref a), some (.int p), some (.int q), some (.int n), some (.ref o), some (.ref q9)]) (hd := dL_paths_19) (hn := by decide) (hok := rfl) (hls := rfl) ?_
      refine mx_iconstN 2 dL_paths_21 (by decide) ?_
      exact mx_iret dL_paths_22 rfl rfl (lwQ_n (k := 2) (by first | omega | (rw [e]; rfl)) (by decide) h3)
  · obtain ⟨e0, e9, hP⟩ := h2
    subst e9
    have to1 : mx_tg G1 o = 4 := (hP.2.1 o (by rw [ho]; decide)).1.trans ho
    have lo1 : mx_ln G1 o = 1 := (hP.2.1 o (by rw [ho]; decide)).2.1.trans hl
    refine mx_i2l (hv := rfl) (hd := dL_paths_10) ?_
    refine mx_last 0 dL_paths_11 (by assumption) ⟨rfl, by omega, by omega⟩ ?_
    refine mx_goto (tgt := 23) dL_paths_12 (by decide) ?_
    refine mx_iconstN 0 dL_paths_23 (by decide) ?_
    exact mx_iret dL_paths_24 rfl rfl (lwQ_0 (by have e := e0; first | omega | (rw [e]; rfl)) (hP.uL o 0 _) (by rw [mx_lg_uL, if_pos ⟨rfl, rfl⟩]))

theorem rg_needed (z : Zs) (p : Int32) (q : Int32) : fl_two z p q = 0 ∨ fl_two z p q = 1 := by
  unfold fl_two
  (repeat' split) <;> simp
theorem mz_needed (z : Zs) (p : Int32) (q : Int32) (h : fl_two z p q = 0) : fl_two z p q = 0 := by
  have h1 := rg_needed z p q
  first | omega | (rcases h1 with e | e | e <;> (rw [e] at h ⊢ <;> first | rfl | exact absurd h (by decide)))
set_option maxHeartbeats 400000 in
set_option maxRecDepth 100000 in
theorem lw_needed (G : mx_G) (I : mx_I) (a o : Nat) (z : Zs) (hW : cW G I a z) (ho : mx_tg G o = 4) (hl : mx_ln G o = 1) (p : Int32) (q : Int32) : mx_CT yL_needed mL_needed 9 1 6 [.ref a, .int p, .int q, .ref o] G I (fun rv Gz Iz => lwQ G I a o z (fl_two z p q) (nI (an_needed z p.toInt.toNat q.toInt.toNat)) z rv Gz Iz) (fun _ _ _ => False) := by
  refine mx_startH (k := 1) (by decide) rfl rfl (fun h => nomatch h) (Nat.le_of_ble_eq_true rfl) ?_
  show mx_V mL_needed mx_S0 9 1 6 0 [some (.ref a), some (.int p), some (.int q), some (.ref o), none] [] G I (fun rv Gz Iz => lwQ G I a o z (fl_two z p q) (nI (an_needed z p.toInt.toNat q.toInt.toNat)) z rv Gz Iz) (fun _ _ _ => False)
  have tg9 : mx_tg G a = 19 := hW.1.1.1
  refine mx_aload_n (i := 3) (hi := rfl) (hl := rfl) (hd := dL_needed_0) ?_
  refine mx_iconstN 0 dL_needed_1 (by decide) ?_
  refine mx_aload_n (i := 0) (hi := rfl) (hl := rfl) (hd := dL_needed_2) ?_
  refine mx_iload_n (i := 1) (hi := rfl) (hl := rfl) (hd := dL_needed_3) ?_
  refine mx_iload_n (i := 2) (hi := rfl) (hl := rfl) (hd := dL_needed_4) ?_
  refine mx_callV (bc := 0) (bs := 0) (ci := 9) (As := [.int p, .int q]) (rest := [.int (nI 0), .ref o]) (b1 := 1) (b2 := 6) dL_needed_5 (ct_needed G I a z hW p q) km_X9_needed rfl k_889 k_890 k_891 (by assumption) rfl rfl (Nat.le_of_ble_eq_true rfl) (by decide) (fun E G9 I9 h9 => ?_) (fun r1 G1 I1 h2 => ?_)
  · obtain ⟨h1, h2, h3⟩ := h9
    rcases rg_needed z p q with e | e
    · exact absurd e h1
    · rw [e] at h2
      have h2 : E = "java/lang/IndexOutOfBoundsException" := h2
      subst h2
      refine mx_hdl (h := (0, 10, 13, 28)) [] [] rfl (by unfold mx_exs; simp) (fun z9 hz9 => (nomatch hz9)) ⟨by decide, by decide⟩ (by decide) k_599 (fun q9 => ?_)
      refine mx_astoreE (i := 4) (ls' := [some (.ref a), some (.int p), some (.int q), some (.ref o), some (.ref q9)]) (hd := dL_needed_13) (hn := by decide) (hok := rfl) (hls := rfl) ?_
      refine mx_iconstN 1 dL_needed_15 (by decide) ?_
      exact mx_iret dL_needed_16 rfl rfl (lwQ_n (k := 1) (by first | omega | (rw [e]; rfl)) (by decide) h3)
  · obtain ⟨e0, e9, hP⟩ := h2
    subst e9
    have to1 : mx_tg G1 o = 4 := (hP.2.1 o (by rw [ho]; decide)).1.trans ho
    have lo1 : mx_ln G1 o = 1 := (hP.2.1 o (by rw [ho]; decide)).2.1.trans hl
    refine mx_i2l (hv := rfl) (hd := dL_needed_8) ?_
    refine mx_last 0 dL_needed_9 (by assumption) ⟨rfl, by omega, by omega⟩ ?_
    refine mx_goto (tgt := 17) dL_needed_10 (by decide) ?_
    refine mx_iconstN 0 dL_needed_17 (by decide) ?_
    exact mx_iret dL_needed_18 rfl rfl (lwQ_0 (by have e := e0; first | omega | (rw [e]; rfl)) (hP.uL o 0 _) (by rw [mx_lg_uL, if_pos ⟨rfl, rfl⟩]))

theorem rg_bestNew (z : Zs) (p : Int32) (q : Int32) : fl_two z p q = 0 ∨ fl_two z p q = 1 := by
  unfold fl_two
  (repeat' split) <;> simp
theorem mz_bestNew (z : Zs) (p : Int32) (q : Int32) (h : fl_two z p q = 0) : fl_two z p q = 0 := by
  have h1 := rg_bestNew z p q
  first | omega | (rcases h1 with e | e | e <;> (rw [e] at h ⊢ <;> first | rfl | exact absurd h (by decide)))
set_option maxHeartbeats 400000 in
set_option maxRecDepth 100000 in
theorem lw_bestNew (G : mx_G) (I : mx_I) (a o : Nat) (z : Zs) (hW : cW G I a z) (ho : mx_tg G o = 4) (hl : mx_ln G o = 1) (p : Int32) (q : Int32) : mx_CT yL_bestNew mL_bestNew 9 1 6 [.ref a, .int p, .int q, .ref o] G I (fun rv Gz Iz => lwQ G I a o z (fl_two z p q) (oI (an_bestNew z p.toInt.toNat q.toInt.toNat)) z rv Gz Iz) (fun _ _ _ => False) := by
  refine mx_startH (k := 1) (by decide) rfl rfl (fun h => nomatch h) (Nat.le_of_ble_eq_true rfl) ?_
  show mx_V mL_bestNew mx_S0 9 1 6 0 [some (.ref a), some (.int p), some (.int q), some (.ref o), none] [] G I (fun rv Gz Iz => lwQ G I a o z (fl_two z p q) (oI (an_bestNew z p.toInt.toNat q.toInt.toNat)) z rv Gz Iz) (fun _ _ _ => False)
  have tg9 : mx_tg G a = 19 := hW.1.1.1
  refine mx_aload_n (i := 3) (hi := rfl) (hl := rfl) (hd := dL_bestNew_0) ?_
  refine mx_iconstN 0 dL_bestNew_1 (by decide) ?_
  refine mx_aload_n (i := 0) (hi := rfl) (hl := rfl) (hd := dL_bestNew_2) ?_
  refine mx_iload_n (i := 1) (hi := rfl) (hl := rfl) (hd := dL_bestNew_3) ?_
  refine mx_iload_n (i := 2) (hi := rfl) (hl := rfl) (hd := dL_bestNew_4) ?_
  refine mx_callV (bc := 0) (bs := 0) (ci := 9) (As := [.int p, .int q]) (rest := [.int (nI 0), .ref o]) (b1 := 1) (b2 := 6) dL_bestNew_5 (ct_bestNew G I a z hW p q) km_X9_bestNew rfl k_897 k_898 k_899 (by assumption) rfl rfl (Nat.le_of_ble_eq_true rfl) (by decide) (fun E G9 I9 h9 => ?_) (fun r1 G1 I1 h2 => ?_)
  · obtain ⟨h1, h2, h3⟩ := h9
    rcases rg_bestNew z p q with e | e
    · exact absurd e h1
    · rw [e] at h2
      have h2 : E = "java/lang/IndexOutOfBoundsException" := h2
      subst h2
      refine mx_hdl (h := (0, 10, 13, 28)) [] [] rfl (by unfold mx_exs; simp) (fun z9 hz9 => (nomatch hz9)) ⟨by decide, by decide⟩ (by decide) k_599 (fun q9 => ?_)
      refine mx_astoreE (i := 4) (ls' := [some (.ref a), some (.int p), some (.int q), some (.ref o), some (.ref q9)]) (hd := dL_bestNew_13) (hn := by decide) (hok := rfl) (hls := rfl) ?_
      refine mx_iconstN 1 dL_bestNew_15 (by decide) ?_
      exact mx_iret dL_bestNew_16 rfl rfl (lwQ_n (k := 1) (by first | omega | (rw [e]; rfl)) (by decide) h3)
  · obtain ⟨e0, e9, hP⟩ := h2
    subst e9
    have to1 : mx_tg G1 o = 4 := (hP.2.1 o (by rw [ho]; decide)).1.trans ho
    have lo1 : mx_ln G1 o = 1 := (hP.2.1 o (by rw [ho]; decide)).2.1.trans hl
    refine mx_i2l (hv := rfl) (hd := dL_bestNew_8) ?_
    refine mx_last 0 dL_bestNew_9 (by assumption) ⟨rfl, by omega, by omega⟩ ?_
    refine mx_goto (tgt := 17) dL_bestNew_10 (by decide) ?_
    refine mx_iconstN 0 dL_bestNew_17 (by decide) ?_
    exact mx_iret dL_bestNew_18 rfl rfl (lwQ_0 (by have e := e0; first | omega | (rw [e]; rfl)) (hP.uL o 0 _) (by rw [mx_lg_uL, if_pos ⟨rfl, rfl⟩]))

theorem rg_follow (z : Zs) (p : Int32) (n : Int32) (row : Int64) : fl_follow z p n row = 0 ∨ fl_follow z p n row = 1 ∨ fl_follow z p n row = 2 := by
  unfold fl_follow
  (repeat' split) <;> simp
theorem mz_follow (z : Zs) (p : Int32) (n : Int32) (row : Int64) (h : fl_follow z p n row = 0) : fl_follow z p n row = 0 := by
  have h1 := rg_follow z p n row
  first | omega | (rcases h1 with e | e | e <;> (rw [e] at h ⊢ <;> first | rfl | exact absurd h (by decide)))
set_option maxHeartbeats 400000 in
set_option maxRecDepth 100000 in
theorem lw_follow (G : mx_G) (I : mx_I) (a o : Nat) (z : Zs) (hW : cW G I a z) (ho : mx_tg G o = 4) (hl : mx_ln G o = 1) (p : Int32) (n : Int32) (row : Int64) : mx_CT yL_follow mL_follow 9 3 18 [.ref a, .int p, .int n, .long row, .ref o] G I (fun rv Gz Iz => lwQ G I a o z (fl_follow z p n row) (an_follow z p.toInt.toNat n.toInt.toNat row.toInt.toNat) z rv Gz Iz) (fun _ _ _ => False) := by
  refine mx_startH (k := 1) (by decide) rfl rfl (fun h => nomatch h) (Nat.le_of_ble_eq_true rfl) ?_
  show mx_V mL_follow mx_S0 9 3 18 0 [some (.ref a), some (.int p), some (.int n), some (.long row), none, some (.ref o), none] [] G I (fun rv Gz Iz => lwQ G I a o z (fl_follow z p n row) (an_follow z p.toInt.toNat n.toInt.toNat row.toInt.toNat) z rv Gz Iz) (fun _ _ _ => False)
  have tg9 : mx_tg G a = 19 := hW.1.1.1
  refine mx_aload (i := 5) (hl := rfl) (hd := dL_follow_0) ?_
  refine mx_iconstN 0 dL_follow_2 (by decide) ?_
  refine mx_aload_n (i := 0) (hi := rfl) (hl := rfl) (hd := dL_follow_3) ?_
  refine mx_iload_n (i := 1) (hi := rfl) (hl := rfl) (hd := dL_follow_4) ?_
  refine mx_iload_n (i := 2) (hi := rfl) (hl := rfl) (hd := dL_follow_5) ?_
  refine mx_lload_n (i := 3) (hi := rfl) (hl := rfl) (hd := dL_follow_6) ?_
  refine mx_callV (bc := 0) (bs := 0) (ci := 9) (As := [.int p, .int n, .long row]) (rest := [.int (nI 0), .ref o]) (b1 := 3) (b2 := 18) dL_follow_7 (ct_follow G I a z hW p n row) km_X9_follow rfl k_917 k_918 k_919 (by assumption) rfl rfl (Nat.le_of_ble_eq_true rfl) (by decide) (fun E G9 I9 h9 => ?_) (fun r1 G1 I1 h2 => ?_)
  · obtain ⟨h1, h2, h3⟩ := h9
    rcases rg_follow z p n row with e | e | e
    · exact absurd e h1
    · rw [e] at h2
      have h2 : E = "java/lang/IndexOutOfBoundsException" := h2
      subst h2
      refine mx_hdl (h := (0, 12, 15, 28)) [] [(0, 12, 19, 13)] rfl (by unfold mx_exs; simp) (fun z9 hz9 => (nomatch hz9)) ⟨by decide, by decide⟩ (by decide) k_599 (fun q9 => ?_)
      refine mx_astoreE (i := 6) (ls' := [some (.ref a), some (.int p), some (.int n), some (.long row), none, some (.ref o), some (.ref q9)]) (hd := dL_follow_15) (hn := by decide) (hok := rfl) (hls := rfl) ?_
      refine mx_iconstN 1 dL_follow_17 (by decide) ?_
      exact mx_iret dL_follow_18 rfl rfl (lwQ_n (k := 1) (by first | omega | (rw [e]; rfl)) (by decide) h3)
    · rw [e] at h2
      have h2 : E = "java/lang/IllegalArgumentException" := h2
      subst h2
      refine mx_hdl (h := (0, 12, 19, 13)) [(0, 12, 15, 28)] [] rfl (by unfold mx_exs; simp) (List.forall_mem_cons.mpr ⟨⟨by decide, "java/lang/IndexOutOfBoundsException", k_599, by unfold mx_exs; simp, by decide⟩, fun z9 hz9 => (nomatch hz9)⟩) ⟨by decide, by decide⟩ (by decide) k_406 (fun q9 => ?_)
      refine mx_astoreE (i := 6) (ls' := [some (.ref a), some (.int p), some (.int n), some (.long row), none, some (.ref o), some (.ref q9)]) (hd := dL_follow_19) (hn := by decide) (hok := rfl) (hls := rfl) ?_
      refine mx_iconstN 2 dL_follow_21 (by decide) ?_
      exact mx_iret dL_follow_22 rfl rfl (lwQ_n (k := 2) (by first | omega | (rw [e]; rfl)) (by decide) h3)
  · obtain ⟨e0, e9, hP⟩ := h2
    subst e9
    have to1 : mx_tg G1 o = 4 := (hP.2.1 o (by rw [ho]; decide)).1.trans ho
    have lo1 : mx_ln G1 o = 1 := (hP.2.1 o (by rw [ho]; decide)).2.1.trans hl
    refine mx_i2l (hv := rfl) (hd := dL_follow_10) ?_
    refine mx_last 0 dL_follow_11 (by assumption) ⟨rfl, by omega, by omega⟩ ?_
    refine mx_goto (tgt := 23) dL_follow_12 (by decide) ?_
    refine mx_iconstN 0 dL_follow_23 (by decide) ?_
    exact mx_iret dL_follow_24 rfl rfl (lwQ_0 (by have e := e0; first | omega | (rw [e]; rfl)) (hP.uL o 0 _) (by rw [mx_lg_uL, if_pos ⟨rfl, rfl⟩]))

theorem rg_runScript (z : Zs) (n : Int32) (sc : Int64) : fl_runScript n sc = 0 ∨ fl_runScript n sc = 2 := by
  unfold fl_runScript
  (repeat' split) <;> simp
theorem mz_runScript (z : Zs) (n : Int32) (sc : Int64) (h : fl_runScript n sc - 1 = 0) : fl_runScript n sc = 0 := by
  have h1 := rg_runScript z n sc
  first | omega | (rcases h1 with e | e | e <;> (rw [e] at h ⊢ <;> first | rfl | exact absurd h (by decide)))
set_option maxHeartbeats 400000 in
set_option maxRecDepth 100000 in
theorem lw_runScript (G : mx_G) (I : mx_I) (a o : Nat) (z : Zs) (hW : cW G I a z) (ho : mx_tg G o = 4) (hl : mx_ln G o = 1) (n : Int32) (sc : Int64) : mx_CT yL_runScript mL_runScript 9 2 12 [.ref a, .int n, .long sc, .ref o] G I (fun rv Gz Iz => lwQ G I a o z (fl_runScript n sc - 1) (an_runScript z n.toInt.toNat sc.toInt.toNat) z rv Gz Iz) (fun _ _ _ => False) := by
  refine mx_startH (k := 1) (by decide) rfl rfl (fun h => nomatch h) (Nat.le_of_ble_eq_true rfl) ?_
  show mx_V mL_runScript mx_S0 9 2 12 0 [some (.ref a), some (.int n), some (.long sc), none, some (.ref o), none] [] G I (fun rv Gz Iz => lwQ G I a o z (fl_runScript n sc - 1) (an_runScript z n.toInt.toNat sc.toInt.toNat) z rv Gz Iz) (fun _ _ _ => False)
  have tg9 : mx_tg G a = 19 := hW.1.1.1
  refine mx_aload (i := 4) (hl := rfl) (hd := dL_runScript_0) ?_
  refine mx_iconstN 0 dL_runScript_2 (by decide) ?_
  refine mx_aload_n (i := 0) (hi := rfl) (hl := rfl) (hd := dL_runScript_3) ?_
  refine mx_iload_n (i := 1) (hi := rfl) (hl := rfl) (hd := dL_runScript_4) ?_
  refine mx_lload_n (i := 2) (hi := rfl) (hl := rfl) (hd := dL_runScript_5) ?_
  refine mx_callV (bc := 0) (bs := 0) (ci := 9) (As := [.int n, .long sc]) (rest := [.int (nI 0), .ref o]) (b1 := 2) (b2 := 12) dL_runScript_6 (ct_runScript G I a z hW n sc) km_X9_runScript rfl k_929 k_930 k_931 (by assumption) rfl rfl (Nat.le_of_ble_eq_true rfl) (by decide) (fun E G9 I9 h9 => ?_) (fun r1 G1 I1 h2 => ?_)
  · obtain ⟨h1, h2, h3⟩ := h9
    rcases rg_runScript z n sc with e | e
    · exact absurd e h1
    · rw [e] at h2
      have h2 : E = "java/lang/IllegalArgumentException" := h2
      subst h2
      refine mx_hdl (h := (0, 11, 14, 13)) [] [] rfl (by unfold mx_exs; simp) (fun z9 hz9 => (nomatch hz9)) ⟨by decide, by decide⟩ (by decide) k_406 (fun q9 => ?_)
      refine mx_astoreE (i := 5) (ls' := [some (.ref a), some (.int n), some (.long sc), none, some (.ref o), some (.ref q9)]) (hd := dL_runScript_14) (hn := by decide) (hok := rfl) (hls := rfl) ?_
      refine mx_iconstN 1 dL_runScript_16 (by decide) ?_
      exact mx_iret dL_runScript_17 rfl rfl (lwQ_n (k := 1) (by first | omega | (rw [e]; rfl)) (by decide) h3)
  · obtain ⟨e0, e9, hP⟩ := h2
    subst e9
    have to1 : mx_tg G1 o = 4 := (hP.2.1 o (by rw [ho]; decide)).1.trans ho
    have lo1 : mx_ln G1 o = 1 := (hP.2.1 o (by rw [ho]; decide)).2.1.trans hl
    refine mx_i2l (hv := rfl) (hd := dL_runScript_9) ?_
    refine mx_last 0 dL_runScript_10 (by assumption) ⟨rfl, by omega, by omega⟩ ?_
    refine mx_goto (tgt := 18) dL_runScript_11 (by decide) ?_
    refine mx_iconstN 0 dL_runScript_18 (by decide) ?_
    exact mx_iret dL_runScript_19 rfl rfl (lwQ_0 (by have e := e0; first | omega | (rw [e]; rfl)) (hP.uL o 0 _) (by rw [mx_lg_uL, if_pos ⟨rfl, rfl⟩]))

theorem rg_simulate (z : Zs) (seed : Int64) (dm : Int32) : fl_simulate dm = 0 ∨ fl_simulate dm = 2 := by
  unfold fl_simulate
  (repeat' split) <;> simp
theorem mz_simulate (z : Zs) (seed : Int64) (dm : Int32) (h : fl_simulate dm - 1 = 0) : fl_simulate dm = 0 := by
  have h1 := rg_simulate z seed dm
  first | omega | (rcases h1 with e | e | e <;> (rw [e] at h ⊢ <;> first | rfl | exact absurd h (by decide)))
set_option maxHeartbeats 400000 in
set_option maxRecDepth 100000 in
theorem lw_simulate (G : mx_G) (I : mx_I) (a o : Nat) (z : Zs) (hW : cW G I a z) (ho : mx_tg G o = 4) (hl : mx_ln G o = 1) (seed : Int64) (dm : Int32) : mx_CT yL_simulate mL_simulate 9 1 6 [.ref a, .long seed, .int dm, .ref o] G I (fun rv Gz Iz => lwQ G I a o z (fl_simulate dm - 1) (nI (an_simulate z seed dm.toInt.toNat)) z rv Gz Iz) (fun _ _ _ => False) := by
  refine mx_startH (k := 1) (by decide) rfl rfl (fun h => nomatch h) (Nat.le_of_ble_eq_true rfl) ?_
  show mx_V mL_simulate mx_S0 9 1 6 0 [some (.ref a), some (.long seed), none, some (.int dm), some (.ref o), none] [] G I (fun rv Gz Iz => lwQ G I a o z (fl_simulate dm - 1) (nI (an_simulate z seed dm.toInt.toNat)) z rv Gz Iz) (fun _ _ _ => False)
  have tg9 : mx_tg G a = 19 := hW.1.1.1
  refine mx_aload (i := 4) (hl := rfl) (hd := dL_simulate_0) ?_
  refine mx_iconstN 0 dL_simulate_2 (by decide) ?_
  refine mx_aload_n (i := 0) (hi := rfl) (hl := rfl) (hd := dL_simulate_3) ?_
  refine mx_lload_n (i := 1) (hi := rfl) (hl := rfl) (hd := dL_simulate_4) ?_
  refine mx_iload_n (i := 3) (hi := rfl) (hl := rfl) (hd := dL_simulate_5) ?_
  refine mx_callV (bc := 0) (bs := 0) (ci := 9) (As := [.long seed, .int dm]) (rest := [.int (nI 0), .ref o]) (b1 := 1) (b2 := 6) dL_simulate_6 (ct_simulate G I a z hW seed dm) km_X9_simulate rfl k_983 k_984 k_985 (by assumption) rfl rfl (Nat.le_of_ble_eq_true rfl) (by decide) (fun E G9 I9 h9 => ?_) (fun r1 G1 I1 h2 => ?_)
  · obtain ⟨h1, h2, h3⟩ := h9
    rcases rg_simulate z seed dm with e | e
    · exact absurd e h1
    · rw [e] at h2
      have h2 : E = "java/lang/IllegalArgumentException" := h2
      subst h2
      refine mx_hdl (h := (0, 11, 14, 13)) [] [] rfl (by unfold mx_exs; simp) (fun z9 hz9 => (nomatch hz9)) ⟨by decide, by decide⟩ (by decide) k_406 (fun q9 => ?_)
      refine mx_astoreE (i := 5) (ls' := [some (.ref a), some (.long seed), none, some (.int dm), some (.ref o), some (.ref q9)]) (hd := dL_simulate_14) (hn := by decide) (hok := rfl) (hls := rfl) ?_
      refine mx_iconstN 1 dL_simulate_16 (by decide) ?_
      exact mx_iret dL_simulate_17 rfl rfl (lwQ_n (k := 1) (by first | omega | (rw [e]; rfl)) (by decide) h3)
  · obtain ⟨e0, e9, hP⟩ := h2
    subst e9
    have to1 : mx_tg G1 o = 4 := (hP.2.1 o (by rw [ho]; decide)).1.trans ho
    have lo1 : mx_ln G1 o = 1 := (hP.2.1 o (by rw [ho]; decide)).2.1.trans hl
    refine mx_i2l (hv := rfl) (hd := dL_simulate_9) ?_
    refine mx_last 0 dL_simulate_10 (by assumption) ⟨rfl, by omega, by omega⟩ ?_
    refine mx_goto (tgt := 18) dL_simulate_11 (by decide) ?_
    refine mx_iconstN 0 dL_simulate_18 (by decide) ?_
    exact mx_iret dL_simulate_19 rfl rfl (lwQ_0 (by have e := e0; first | omega | (rw [e]; rfl)) (hP.uL o 0 _) (by rw [mx_lg_uL, if_pos ⟨rfl, rfl⟩]))

theorem rg_save (z : Zs) (s : Int32) : fl_slot s = 0 ∨ fl_slot s = 1 := by
  unfold fl_slot
  (repeat' split) <;> simp
theorem mz_save (z : Zs) (s : Int32) (h : fl_slot s = 0) : fl_slot s = 0 := by
  have h1 := rg_save z s
  first | omega | (rcases h1 with e | e | e <;> (rw [e] at h ⊢ <;> first | rfl | exact absurd h (by decide)))
set_option maxHeartbeats 400000 in
set_option maxRecDepth 100000 in
theorem lw_save (G : mx_G) (I : mx_I) (a o : Nat) (z : Zs) (hW : cW G I a z) (ho : mx_tg G o = 4) (hl : mx_ln G o = 1) (s : Int32) : mx_CT yL_save mL_save 9 1 6 [.ref a, .int s, .ref o] G I (fun rv Gz Iz => lwQ G I a o z (fl_slot s) (nI (gN (zG z))) (nx_save z s.toInt.toNat) rv Gz Iz) (fun _ _ _ => False) := by
  refine mx_startH (k := 1) (by decide) rfl rfl (fun h => nomatch h) (Nat.le_of_ble_eq_true rfl) ?_
  show mx_V mL_save mx_S0 9 1 6 0 [some (.ref a), some (.int s), some (.ref o), none] [] G I (fun rv Gz Iz => lwQ G I a o z (fl_slot s) (nI (gN (zG z))) (nx_save z s.toInt.toNat) rv Gz Iz) (fun _ _ _ => False)
  have tg9 : mx_tg G a = 19 := hW.1.1.1
  refine mx_aload_n (i := 2) (hi := rfl) (hl := rfl) (hd := dL_save_0) ?_
  refine mx_iconstN 0 dL_save_1 (by decide) ?_
  refine mx_aload_n (i := 0) (hi := rfl) (hl := rfl) (hd := dL_save_2) ?_
  refine mx_iload_n (i := 1) (hi := rfl) (hl := rfl) (hd := dL_save_3) ?_
  refine mx_callV (bc := 0) (bs := 0) (ci := 9) (As := [.int s]) (rest := [.int (nI 0), .ref o]) (b1 := 1) (b2 := 6) dL_save_4 (ct_save G I a z hW s) km_X9_save rfl k_993 k_994 k_995 (by assumption) rfl rfl (Nat.le_of_ble_eq_true rfl) (by decide) (fun E G9 I9 h9 => ?_) (fun r1 G1 I1 h2 => ?_)
  · obtain ⟨h1, h2, h3⟩ := h9
    rcases rg_save z s with e | e
    · exact absurd e h1
    · rw [e] at h2
      have h2 : E = "java/lang/IndexOutOfBoundsException" := h2
      subst h2
      refine mx_hdl (h := (0, 9, 12, 28)) [] [] rfl (by unfold mx_exs; simp) (fun z9 hz9 => (nomatch hz9)) ⟨by decide, by decide⟩ (by decide) k_599 (fun q9 => ?_)
      refine mx_astoreE_n (i := 3) (ls' := [some (.ref a), some (.int s), some (.ref o), some (.ref q9)]) (hi := rfl) (hd := dL_save_12) (hn := by decide) (hok := rfl) (hls := rfl) ?_
      refine mx_iconstN 1 dL_save_13 (by decide) ?_
      exact mx_iret dL_save_14 rfl rfl (lwQ_n (k := 1) (by first | omega | (rw [e]; rfl)) (by decide) h3)
  · obtain ⟨e0, e9, hP⟩ := h2
    subst e9
    have to1 : mx_tg G1 o = 4 := (hP.2.1 o (by rw [ho]; decide)).1.trans ho
    have lo1 : mx_ln G1 o = 1 := (hP.2.1 o (by rw [ho]; decide)).2.1.trans hl
    refine mx_i2l (hv := rfl) (hd := dL_save_7) ?_
    refine mx_last 0 dL_save_8 (by assumption) ⟨rfl, by omega, by omega⟩ ?_
    refine mx_goto (tgt := 15) dL_save_9 (by decide) ?_
    refine mx_iconstN 0 dL_save_15 (by decide) ?_
    exact mx_iret dL_save_16 rfl rfl (lwQ_0 (by have e := e0; first | omega | (rw [e]; rfl)) (hP.uL o 0 _) (by rw [mx_lg_uL, if_pos ⟨rfl, rfl⟩]))

theorem rg_restore (z : Zs) (s : Int32) : fl_restore z s = 0 ∨ fl_restore z s = 1 ∨ fl_restore z s = 3 := by
  unfold fl_restore
  (repeat' split) <;> simp
theorem mz_restore (z : Zs) (s : Int32) (h : kD (fl_restore z s) = 0) : fl_restore z s = 0 := by
  have h1 := rg_restore z s
  first | omega | (rcases h1 with e | e | e <;> (rw [e] at h ⊢ <;> first | rfl | exact absurd h (by decide)))
set_option maxHeartbeats 400000 in
set_option maxRecDepth 100000 in
theorem lw_restore (G : mx_G) (I : mx_I) (a o : Nat) (z : Zs) (hW : cW G I a z) (ho : mx_tg G o = 4) (hl : mx_ln G o = 1) (s : Int32) : mx_CT yL_restore mL_restore 9 2 12 [.ref a, .int s, .ref o] G I (fun rv Gz Iz => lwQ G I a o z (kD (fl_restore z s)) (nI (gN (zK z s.toInt.toNat).1)) (nx_restore z s.toInt.toNat) rv Gz Iz) (fun _ _ _ => False) := by
  refine mx_startH (k := 1) (by decide) rfl rfl (fun h => nomatch h) (Nat.le_of_ble_eq_true rfl) ?_
  show mx_V mL_restore mx_S0 9 2 12 0 [some (.ref a), some (.int s), some (.ref o), none] [] G I (fun rv Gz Iz => lwQ G I a o z (kD (fl_restore z s)) (nI (gN (zK z s.toInt.toNat).1)) (nx_restore z s.toInt.toNat) rv Gz Iz) (fun _ _ _ => False)
  have tg9 : mx_tg G a = 19 := hW.1.1.1
  refine mx_aload_n (i := 2) (hi := rfl) (hl := rfl) (hd := dL_restore_0) ?_
  refine mx_iconstN 0 dL_restore_1 (by decide) ?_
  refine mx_aload_n (i := 0) (hi := rfl) (hl := rfl) (hd := dL_restore_2) ?_
  refine mx_iload_n (i := 1) (hi := rfl) (hl := rfl) (hd := dL_restore_3) ?_
  refine mx_callV (bc := 0) (bs := 0) (ci := 9) (As := [.int s]) (rest := [.int (nI 0), .ref o]) (b1 := 2) (b2 := 12) dL_restore_4 (ct_restore G I a z hW s) km_X9_restore rfl k_1003 k_1004 k_1005 (by assumption) rfl rfl (Nat.le_of_ble_eq_true rfl) (by decide) (fun E G9 I9 h9 => ?_) (fun r1 G1 I1 h2 => ?_)
  · obtain ⟨h1, h2, h3⟩ := h9
    rcases rg_restore z s with e | e | e
    · exact absurd e h1
    · rw [e] at h2
      have h2 : E = "java/lang/IndexOutOfBoundsException" := h2
      subst h2
      refine mx_hdl (h := (0, 9, 12, 28)) [] [(0, 9, 15, 15)] rfl (by unfold mx_exs; simp) (fun z9 hz9 => (nomatch hz9)) ⟨by decide, by decide⟩ (by decide) k_599 (fun q9 => ?_)
      refine mx_astoreE_n (i := 3) (ls' := [some (.ref a), some (.int s), some (.ref o), some (.ref q9)]) (hi := rfl) (hd := dL_restore_12) (hn := by decide) (hok := rfl) (hls := rfl) ?_
      refine mx_iconstN 1 dL_restore_13 (by decide) ?_
      exact mx_iret dL_restore_14 rfl rfl (lwQ_n (k := 1) (by first | omega | (rw [e]; rfl)) (by decide) h3)
    · rw [e] at h2
      have h2 : E = "java/lang/IllegalStateException" := h2
      subst h2
      refine mx_hdl (h := (0, 9, 15, 15)) [(0, 9, 12, 28)] [] rfl (by unfold mx_exs; simp) (List.forall_mem_cons.mpr ⟨⟨by decide, "java/lang/IndexOutOfBoundsException", k_599, by unfold mx_exs; simp, by decide⟩, fun z9 hz9 => (nomatch hz9)⟩) ⟨by decide, by decide⟩ (by decide) k_407 (fun q9 => ?_)
      refine mx_astoreE_n (i := 3) (ls' := [some (.ref a), some (.int s), some (.ref o), some (.ref q9)]) (hi := rfl) (hd := dL_restore_15) (hn := by decide) (hok := rfl) (hls := rfl) ?_
      refine mx_iconstN 2 dL_restore_16 (by decide) ?_
      exact mx_iret dL_restore_17 rfl rfl (lwQ_n (k := 2) (by first | omega | (rw [e]; rfl)) (by decide) h3)
  · obtain ⟨e0, e9, hP⟩ := h2
    subst e9
    have to1 : mx_tg G1 o = 4 := (hP.2.1 o (by rw [ho]; decide)).1.trans ho
    have lo1 : mx_ln G1 o = 1 := (hP.2.1 o (by rw [ho]; decide)).2.1.trans hl
    refine mx_i2l (hv := rfl) (hd := dL_restore_7) ?_
    refine mx_last 0 dL_restore_8 (by assumption) ⟨rfl, by omega, by omega⟩ ?_
    refine mx_goto (tgt := 18) dL_restore_9 (by decide) ?_
    refine mx_iconstN 0 dL_restore_18 (by decide) ?_
    exact mx_iret dL_restore_19 rfl rfl (lwQ_0 (by have e := e0; first | omega | (rw [e]; rfl)) (hP.uL o 0 _) (by rw [mx_lg_uL, if_pos ⟨rfl, rfl⟩]))
